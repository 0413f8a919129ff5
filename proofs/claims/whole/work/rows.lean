section
-- ===== PART A: goes FIRST, ahead of the names: the tables' words, and 'selects' of the private methods out of them =====
/-- a private method of a class that the tables say can be made, by its rows of tables_1 -/
def lw_okq (q : MethodName × Nat) : Prop := (q.1.cls ≠ "java/lang/invoke/MethodHandle" ∧ q.1.cls ≠ "java/lang/invoke/VarHandle") ∧ Cond.instantiable q.1.cls q.2 ∈ tables_1 ∧ Cond.privateMethod q.1 ∈ tables_1 ∧ Cond.instanceMethod q.1 ∈ tables_1
theorem lw_p0 : lw_okq (⟨"RdfsRules$Rows", "slotOf", "(III)I"⟩, 12) := ⟨⟨by decide +kernel, by decide +kernel⟩, List.mem_of_getElem? (i := 73) (by decide +kernel), List.mem_of_getElem? (i := 189) (by decide +kernel), List.mem_of_getElem? (i := 190) (by decide +kernel)⟩
theorem lw_p1 : lw_okq (⟨"java/lang/Throwable", "fillInStackTrace", "(I)Ljava/lang/Throwable;"⟩, 6) := ⟨⟨by decide +kernel, by decide +kernel⟩, List.mem_of_getElem? (i := 248) (by decide +kernel), List.mem_of_getElem? (i := 246) (by decide +kernel), List.mem_of_getElem? (i := 247) (by decide +kernel)⟩
theorem lw_p2 : lw_okq (⟨"RdfsRules", "mayBeFact", "(III)Z"⟩, 6) := ⟨⟨by decide +kernel, by decide +kernel⟩, List.mem_of_getElem? (i := 16) (by decide +kernel), List.mem_of_getElem? (i := 309) (by decide +kernel), List.mem_of_getElem? (i := 310) (by decide +kernel)⟩
theorem lw_p3 : lw_okq (⟨"RdfsRules$Axioms", "size", "()I"⟩, 3) := ⟨⟨by decide +kernel, by decide +kernel⟩, List.mem_of_getElem? (i := 57) (by decide +kernel), List.mem_of_getElem? (i := 351) (by decide +kernel), List.mem_of_getElem? (i := 352) (by decide +kernel)⟩
theorem lw_p4 : lw_okq (⟨"RdfsRules$Axioms", "subject", "(I)I"⟩, 3) := ⟨⟨by decide +kernel, by decide +kernel⟩, List.mem_of_getElem? (i := 57) (by decide +kernel), List.mem_of_getElem? (i := 359) (by decide +kernel), List.mem_of_getElem? (i := 360) (by decide +kernel)⟩
theorem lw_p5 : lw_okq (⟨"RdfsRules$Axioms", "property", "(I)I"⟩, 3) := ⟨⟨by decide +kernel, by decide +kernel⟩, List.mem_of_getElem? (i := 57) (by decide +kernel), List.mem_of_getElem? (i := 365) (by decide +kernel), List.mem_of_getElem? (i := 366) (by decide +kernel)⟩
theorem lw_p6 : lw_okq (⟨"RdfsRules$Axioms", "object", "(I)I"⟩, 3) := ⟨⟨by decide +kernel, by decide +kernel⟩, List.mem_of_getElem? (i := 57) (by decide +kernel), List.mem_of_getElem? (i := 371) (by decide +kernel), List.mem_of_getElem? (i := 372) (by decide +kernel)⟩
theorem lw_p7 : lw_okq (⟨"RdfsRules$Reasoner", "firstProperty", "()I"⟩, 8) := ⟨⟨by decide +kernel, by decide +kernel⟩, List.mem_of_getElem? (i := 123) (by decide +kernel), List.mem_of_getElem? (i := 425) (by decide +kernel), List.mem_of_getElem? (i := 426) (by decide +kernel)⟩
theorem lw_p8 : lw_okq (⟨"RdfsRules$Reasoner", "applyToSingles", "()V"⟩, 8) := ⟨⟨by decide +kernel, by decide +kernel⟩, List.mem_of_getElem? (i := 123) (by decide +kernel), List.mem_of_getElem? (i := 429) (by decide +kernel), List.mem_of_getElem? (i := 430) (by decide +kernel)⟩
theorem lw_p9 : lw_okq (⟨"RdfsRules$Reasoner", "makeOfOne", "(III)V"⟩, 8) := ⟨⟨by decide +kernel, by decide +kernel⟩, List.mem_of_getElem? (i := 123) (by decide +kernel), List.mem_of_getElem? (i := 433) (by decide +kernel), List.mem_of_getElem? (i := 434) (by decide +kernel)⟩
theorem lw_p10 : lw_okq (⟨"RdfsRules$Reasoner", "make", "(III)V"⟩, 8) := ⟨⟨by decide +kernel, by decide +kernel⟩, List.mem_of_getElem? (i := 123) (by decide +kernel), List.mem_of_getElem? (i := 442) (by decide +kernel), List.mem_of_getElem? (i := 443) (by decide +kernel)⟩
theorem lw_p11 : lw_okq (⟨"RdfsRules$Reasoner", "applyToPairs", "()V"⟩, 8) := ⟨⟨by decide +kernel, by decide +kernel⟩, List.mem_of_getElem? (i := 123) (by decide +kernel), List.mem_of_getElem? (i := 447) (by decide +kernel), List.mem_of_getElem? (i := 448) (by decide +kernel)⟩
theorem lw_p12 : lw_okq (⟨"RdfsRules$Reasoner", "settledParts", "()[I"⟩, 8) := ⟨⟨by decide +kernel, by decide +kernel⟩, List.mem_of_getElem? (i := 123) (by decide +kernel), List.mem_of_getElem? (i := 451) (by decide +kernel), List.mem_of_getElem? (i := 452) (by decide +kernel)⟩
theorem lw_p13 : lw_okq (⟨"RdfsRules$Reasoner", "makeOfTwo", "(IIIII)V"⟩, 8) := ⟨⟨by decide +kernel, by decide +kernel⟩, List.mem_of_getElem? (i := 123) (by decide +kernel), List.mem_of_getElem? (i := 455) (by decide +kernel), List.mem_of_getElem? (i := 456) (by decide +kernel)⟩
theorem lw_p14 : lw_okq (⟨"RdfsRules$Rows", "markRest", "(I)V"⟩, 12) := ⟨⟨by decide +kernel, by decide +kernel⟩, List.mem_of_getElem? (i := 73) (by decide +kernel), List.mem_of_getElem? (i := 503) (by decide +kernel), List.mem_of_getElem? (i := 504) (by decide +kernel)⟩
theorem lw_p15 : lw_okq (⟨"RdfsRules$Rows", "markIfRow", "(I)V"⟩, 12) := ⟨⟨by decide +kernel, by decide +kernel⟩, List.mem_of_getElem? (i := 73) (by decide +kernel), List.mem_of_getElem? (i := 507) (by decide +kernel), List.mem_of_getElem? (i := 508) (by decide +kernel)⟩
def lw_privs_1 : List (MethodName × Nat) := [(⟨"RdfsRules$Rows", "slotOf", "(III)I"⟩, 12), (⟨"java/lang/Throwable", "fillInStackTrace", "(I)Ljava/lang/Throwable;"⟩, 6), (⟨"RdfsRules", "mayBeFact", "(III)Z"⟩, 6), (⟨"RdfsRules$Axioms", "size", "()I"⟩, 3), (⟨"RdfsRules$Axioms", "subject", "(I)I"⟩, 3), (⟨"RdfsRules$Axioms", "property", "(I)I"⟩, 3), (⟨"RdfsRules$Axioms", "object", "(I)I"⟩, 3), (⟨"RdfsRules$Reasoner", "firstProperty", "()I"⟩, 8), (⟨"RdfsRules$Reasoner", "applyToSingles", "()V"⟩, 8), (⟨"RdfsRules$Reasoner", "makeOfOne", "(III)V"⟩, 8), (⟨"RdfsRules$Reasoner", "make", "(III)V"⟩, 8), (⟨"RdfsRules$Reasoner", "applyToPairs", "()V"⟩, 8), (⟨"RdfsRules$Reasoner", "settledParts", "()[I"⟩, 8), (⟨"RdfsRules$Reasoner", "makeOfTwo", "(IIIII)V"⟩, 8), (⟨"RdfsRules$Rows", "markRest", "(I)V"⟩, 12), (⟨"RdfsRules$Rows", "markIfRow", "(I)V"⟩, 12)]
theorem lw_r1 : ∀ q ∈ lw_privs_1, lw_okq q := List.forall_mem_cons.mpr ⟨lw_p0, List.forall_mem_cons.mpr ⟨lw_p1, List.forall_mem_cons.mpr ⟨lw_p2, List.forall_mem_cons.mpr ⟨lw_p3, List.forall_mem_cons.mpr ⟨lw_p4, List.forall_mem_cons.mpr ⟨lw_p5, List.forall_mem_cons.mpr ⟨lw_p6, List.forall_mem_cons.mpr ⟨lw_p7, List.forall_mem_cons.mpr ⟨lw_p8, List.forall_mem_cons.mpr ⟨lw_p9, List.forall_mem_cons.mpr ⟨lw_p10, List.forall_mem_cons.mpr ⟨lw_p11, List.forall_mem_cons.mpr ⟨lw_p12, List.forall_mem_cons.mpr ⟨lw_p13, List.forall_mem_cons.mpr ⟨lw_p14, List.forall_mem_cons.mpr ⟨lw_p15, fun _ h => absurd h List.not_mem_nil⟩⟩⟩⟩⟩⟩⟩⟩⟩⟩⟩⟩⟩⟩⟩⟩
theorem lw_p16 : lw_okq (⟨"RdfsRulesModel", "isPlain", "(I)Z"⟩, 16) := ⟨⟨by decide +kernel, by decide +kernel⟩, List.mem_of_getElem? (i := 551) (by decide +kernel), List.mem_of_getElem? (i := 614) (by decide +kernel), List.mem_of_getElem? (i := 615) (by decide +kernel)⟩
theorem lw_p17 : lw_okq (⟨"RdfsRulesModel", "refuses", "(I)Z"⟩, 16) := ⟨⟨by decide +kernel, by decide +kernel⟩, List.mem_of_getElem? (i := 551) (by decide +kernel), List.mem_of_getElem? (i := 618) (by decide +kernel), List.mem_of_getElem? (i := 619) (by decide +kernel)⟩
theorem lw_p18 : lw_okq (⟨"RdfsRulesModel", "place", "(III)I"⟩, 16) := ⟨⟨by decide +kernel, by decide +kernel⟩, List.mem_of_getElem? (i := 551) (by decide +kernel), List.mem_of_getElem? (i := 626) (by decide +kernel), List.mem_of_getElem? (i := 627) (by decide +kernel)⟩
theorem lw_p19 : lw_okq (⟨"RdfsRulesModel", "isFact", "(III)Z"⟩, 16) := ⟨⟨by decide +kernel, by decide +kernel⟩, List.mem_of_getElem? (i := 551) (by decide +kernel), List.mem_of_getElem? (i := 630) (by decide +kernel), List.mem_of_getElem? (i := 631) (by decide +kernel)⟩
theorem lw_p20 : lw_okq (⟨"RdfsRulesModel", "isLiteral", "(I)Z"⟩, 16) := ⟨⟨by decide +kernel, by decide +kernel⟩, List.mem_of_getElem? (i := 551) (by decide +kernel), List.mem_of_getElem? (i := 634) (by decide +kernel), List.mem_of_getElem? (i := 635) (by decide +kernel)⟩
theorem lw_p21 : lw_okq (⟨"RdfsRulesModel", "isAxiom", "(III)Z"⟩, 16) := ⟨⟨by decide +kernel, by decide +kernel⟩, List.mem_of_getElem? (i := 551) (by decide +kernel), List.mem_of_getElem? (i := 642) (by decide +kernel), List.mem_of_getElem? (i := 643) (by decide +kernel)⟩
theorem lw_p22 : lw_okq (⟨"RdfsRulesModel", "axiom", "(I)I"⟩, 16) := ⟨⟨by decide +kernel, by decide +kernel⟩, List.mem_of_getElem? (i := 551) (by decide +kernel), List.mem_of_getElem? (i := 646) (by decide +kernel), List.mem_of_getElem? (i := 647) (by decide +kernel)⟩
theorem lw_p23 : lw_okq (⟨"RdfsRulesModel", "makes", "(IIIIIII)V"⟩, 16) := ⟨⟨by decide +kernel, by decide +kernel⟩, List.mem_of_getElem? (i := 551) (by decide +kernel), List.mem_of_getElem? (i := 674) (by decide +kernel), List.mem_of_getElem? (i := 675) (by decide +kernel)⟩
theorem lw_p24 : lw_okq (⟨"RdfsRulesModel", "slot", "(III)I"⟩, 16) := ⟨⟨by decide +kernel, by decide +kernel⟩, List.mem_of_getElem? (i := 551) (by decide +kernel), List.mem_of_getElem? (i := 678) (by decide +kernel), List.mem_of_getElem? (i := 679) (by decide +kernel)⟩
theorem lw_p25 : lw_okq (⟨"RdfsRulesModel", "ofOne", "(III)V"⟩, 16) := ⟨⟨by decide +kernel, by decide +kernel⟩, List.mem_of_getElem? (i := 551) (by decide +kernel), List.mem_of_getElem? (i := 685) (by decide +kernel), List.mem_of_getElem? (i := 686) (by decide +kernel)⟩
theorem lw_p26 : lw_okq (⟨"RdfsRulesModel", "ofTwo", "(IIII)V"⟩, 16) := ⟨⟨by decide +kernel, by decide +kernel⟩, List.mem_of_getElem? (i := 551) (by decide +kernel), List.mem_of_getElem? (i := 689) (by decide +kernel), List.mem_of_getElem? (i := 690) (by decide +kernel)⟩
theorem lw_p27 : lw_okq (⟨"RdfsRulesModel", "marks", "(I)I"⟩, 16) := ⟨⟨by decide +kernel, by decide +kernel⟩, List.mem_of_getElem? (i := 551) (by decide +kernel), List.mem_of_getElem? (i := 705) (by decide +kernel), List.mem_of_getElem? (i := 706) (by decide +kernel)⟩
def lw_privs_2 : List (MethodName × Nat) := [(⟨"RdfsRulesModel", "isPlain", "(I)Z"⟩, 16), (⟨"RdfsRulesModel", "refuses", "(I)Z"⟩, 16), (⟨"RdfsRulesModel", "place", "(III)I"⟩, 16), (⟨"RdfsRulesModel", "isFact", "(III)Z"⟩, 16), (⟨"RdfsRulesModel", "isLiteral", "(I)Z"⟩, 16), (⟨"RdfsRulesModel", "isAxiom", "(III)Z"⟩, 16), (⟨"RdfsRulesModel", "axiom", "(I)I"⟩, 16), (⟨"RdfsRulesModel", "makes", "(IIIIIII)V"⟩, 16), (⟨"RdfsRulesModel", "slot", "(III)I"⟩, 16), (⟨"RdfsRulesModel", "ofOne", "(III)V"⟩, 16), (⟨"RdfsRulesModel", "ofTwo", "(IIII)V"⟩, 16), (⟨"RdfsRulesModel", "marks", "(I)I"⟩, 16)]
theorem lw_r2 : ∀ q ∈ lw_privs_2, lw_okq q := List.forall_mem_cons.mpr ⟨lw_p16, List.forall_mem_cons.mpr ⟨lw_p17, List.forall_mem_cons.mpr ⟨lw_p18, List.forall_mem_cons.mpr ⟨lw_p19, List.forall_mem_cons.mpr ⟨lw_p20, List.forall_mem_cons.mpr ⟨lw_p21, List.forall_mem_cons.mpr ⟨lw_p22, List.forall_mem_cons.mpr ⟨lw_p23, List.forall_mem_cons.mpr ⟨lw_p24, List.forall_mem_cons.mpr ⟨lw_p25, List.forall_mem_cons.mpr ⟨lw_p26, List.forall_mem_cons.mpr ⟨lw_p27, fun _ h => absurd h List.not_mem_nil⟩⟩⟩⟩⟩⟩⟩⟩⟩⟩⟩⟩
def lw_privs : List (MethodName × Nat) := lw_privs_1 ++ (lw_privs_2)
def lw_tbl : List Cond := k2_sels lw_privs ++ tables_1
theorem lw_privs_ok : ∀ q ∈ lw_privs, lw_okq q := by
  show ∀ q ∈ lw_privs_1 ++ (lw_privs_2), lw_okq q
  exact List.forall_mem_append.mpr ⟨lw_r1, lw_r2⟩
end
section
/-! ===== BEGIN words of one list among another's, by their places ===== -/
theorem goodIn_r {big : List Cond} (ws : List Cond) (ps : List Nat) (hp : ws = ps.filterMap (fun i => big[i]?)) (h : ws.all goodWord = true) : GoodIn big ws := by
  intro w hw
  have h1 := List.all_eq_true.mp h w hw
  rw [hp] at hw
  obtain ⟨i, -, hi⟩ := List.mem_filterMap.mp hw
  have hm : w ∈ big := by first | exact List.mem_of_getElem? hi | exact List.getElem?_mem hi
  exact ⟨hm, good_of_word h1⟩
theorem goodIn_app {big a b : List Cond} (ha : GoodIn big a) (hb : GoodIn big b) : GoodIn big (a ++ b) := fun w h => (List.mem_append.mp h).elim (ha w) (hb w)
theorem goodIn_ca {big a b : List Cond} {c : Cond} (ha : GoodIn big (c :: a)) (hb : GoodIn big b) : GoodIn big (c :: (a ++ b)) := fun w h => (List.mem_cons.mp h).elim (fun e => ha w (List.mem_cons.mpr (Or.inl e))) (fun h => (List.mem_append.mp h).elim (fun h => ha w (List.mem_cons.mpr (Or.inr h))) (hb w))
theorem goodIn_sub {big ws : List Cond} (hm : ∀ w ∈ ws, w ∈ big) (h : ws.all goodWord = true) : GoodIn big ws := fun w hw => ⟨hm w hw, good_of_word (List.all_eq_true.mp h w hw)⟩
/-! ===== END ===== -/

/-! ===== BEGIN exceptions that leave a method, and their catching by the caller (launches without stack traces) ===== -/
section VXA
/-! The laws vx_back, vx_callV, vx_callS, vx_callSW, vx_throw0, vx_throwS follow proofs of the library, with one case more: JvmDerived/Free/Laws.lean (Back.of_free), Shelf42/LK1.lean (callV, callS), Shelf/KitTraced.lean (throwNew0V, throwNewS). -/
/-- where a method has thrown q: the class by its name, the cell, what was written, the world -/
def vx_T (XC : String → State → State → Prop) (st : State) (q : Addr) (t : State) (mc ms : Nat) (free : Addr → Prop) : Prop :=
  ∃ (E : String) (ce : Cell) (L : List Loc), XC E st t ∧ t.heap[q]? = some ce ∧ ce.vm = .none ∧ st.vm.findClass E = some ce.cls ∧ st.WarmedH t.vm ∧ st.sameButNew ({ t with vm := st.vm } : State) L mc ms ∧ ∀ z ∈ L, free z.base
def vx_Q (Qc : Array Value → State → Outcome → State → Prop) (XC : String → State → State → Prop) (mc ms : Nat) (free : Addr → Prop) : Array Value → State → Outcome → State → Prop := fun a st o t =>
  (Qc a st o t ∧ ∃ L, FrameEnd st o t L mc ms ∧ ∀ q ∈ L, free q.base) ∨ ∃ q, o = .threw q ∧ vx_T XC st q t mc ms free
/-- a callee that returns or throws -/
def vx_Met (l : Launch) (y : MethodName) (ws : List Cond) (rm : Room) (Pc : Array Value → State → Prop) (Qc : Array Value → State → Outcome → State → Prop) (XC : String → State → State → Prop) (mc ms : Nat) (free : Addr → Prop) : Prop :=
  MetFree l y (headSpec ws rm) Pc (fun _ _ _ _ _ => True) (vx_Q Qc XC mc ms free)
def vx_Post (XC : String → State → State → Prop) (mc ms : Nat) (free : Addr → Prop) : Pt → Array Value → Addr → Pt → Prop := fun A a q B =>
  ∃ (g : JFrame) (mk : MethodId) (t : State) (L : List Loc) (E : String) (ce : Cell), B.U.heap = t.heap ∧ B.U.vm = t.vm ∧ XC E (A.U.calling g mk a) t ∧ t.heap[q]? = some ce ∧ ce.vm = .none ∧ A.U.vm.findClass E = some ce.cls ∧ B.locs = A.locs ++ L ∧ (∀ z ∈ L, free z.base) ∧ B.cells = A.cells + mc ∧ B.slots = A.slots + ms
def vx_Back (l : Launch) (R : Room) (p : Program) (e : Env) (below : List Frame) (s : State) (sargs : Array Value) (y : MethodName) (len W9 : Nat)
    (Pre : Pt → Array Value → Prop) (Post : Pt → Array Value → Option Value → Pt → Prop) (PostX : Pt → Array Value → Addr → Pt → Prop) : Prop :=
  ∀ (m : MethodId) (meth : Method) (c : Code) (A : Pt) (g : JFrame) (ig : Instr) (mk : MethodId) (a : Array Value),
    Stand p l e R s m sargs below meth c A.U A.locs A.cells A.slots → g.method = m → g.locals.size = c.maxLocals → decode c.code g.pc = .ok (ig, len) →
    2 * g.monitorRoom + (g.stack.map fun v => v.category).sum ≤ W9 → A.U.methodNamed? y = some mk → Pre A a →
    (∃ (v : Option Value) (B : Pt), Stand p l e R s m sargs below meth c B.U B.locs B.cells B.slots ∧ Post A a v B ∧
      Steps p.tables e below (doInvoke e (A.U.setTop g) [] mk a).1 (B.U.setTop { g with pc := g.pc + len, stack := v.toList ++ g.stack })) ∨
    (∃ (q : Addr) (B : Pt), Stand p l e R s m sargs below meth c B.U B.locs B.cells B.slots ∧ PostX A a q B ∧
      Steps p.tables e below (doInvoke e (A.U.setTop g) [] mk a).1 ((B.U.setTop g).pushFrame (.throwing q)))
section Payer
variable {l : Launch} {R : Room} {p : Program} {e : Env} {below : List Frame} {s : State} {sargs : Array Value} {y : MethodName} {len W9 : Nat}
theorem vx_back {ws : List Cond} {rm : Room} {Pc : Array Value → State → Prop} {Qc : Array Value → State → Outcome → State → Prop} {XC : String → State → State → Prop} {mc ms : Nat} {free : Addr → Prop} {bytes : ByteArray} {maxL : Nat} {ret : Option FieldType}
    (hM : vx_Met l y ws rm Pc Qc XC mc ms free) (hblind : FrameBlind Pc) (hrc : rm.cells = mc) (hrs : rm.slots = ms)
    (hframes : rm.frames + 1 ≤ R.frames) (hlocals : W9 + (maxL + 11) + rm.locals ≤ R.locals)
    (hws : ∀ w ∈ ws, ∀ a' U, s.WarmedH U.vm → w.before a' U = true) (hcode : Cond.code y bytes maxL ret ∈ ws) (hinit : ∀ a' U, s.WarmedH U.vm → (Cond.initialized y.cls).before a' U = true) :
    vx_Back l R p e below s sargs y len W9 (PreOf R mc ms Pc) (PostOf Qc mc ms free) (vx_Post XC mc ms free) := by
  intro m meth c A g ig mk a X hg hsize hdg hW hn hp
  have h1 : (headSpec ws rm).pre.before a A.U = true := atoms_intro fun w hw => hws w hw _ _ X.warmed
  have h2 : (Cond.code y bytes maxL ret).before a A.U = true := hws _ hcode _ _ X.warmed
  have h3 : (Cond.initialized y.cls).before a A.U = true := hinit _ _ X.warmed
  have h4 : A.cells + (headSpec ws rm).room.cells ≤ R.cells := by rw [show (headSpec ws rm).room.cells = mc from hrc]; exact hp.1
  have h5 : A.slots + (headSpec ws rm).room.slots ≤ R.slots := by rw [show (headSpec ws rm).room.slots = ms from hrs]; exact hp.2.1
  have hPc : Pc a (A.U.calling g mk a) := hblind _ _ _ _ hp.2.2
  obtain ⟨U, Ls, c0, s0⟩ := A
  dsimp only [Pt.U, Pt.locs, Pt.cells, Pt.slots] at h1 h2 h3 h4 h5 X hn hPc ⊢
  obtain ⟨methY, cY, hmY, hcY, -, hlY, -, -, -, -⟩ := Cond.code_spec hn h2
  obtain ⟨kY, hkY, -⟩ := className_of_methodNamed hn
  have hinitY : kY.init = .initialized := Cond.initialized_spec (findClass_of_methodNamed hn) hkY h3
  have h : At U g.method c below := by rw [hg]; exact X.here
  have hlocals9 : W9 + (maxL + 11) + (headSpec ws rm).room.locals ≤ R.locals := hlocals
  have happ : (headSpec ws rm).appliesLoose y e.platform (U.calling g mk a) = true :=
    Spec.appliesLoose_calling (g := g) h hdg hn hkY hinitY
      (X.room_calling (g := g) (R' := (headSpec ws rm).room) hsize hmY hcY hframes (by rw [hlY]; omega) h4 h5) h1
  obtain ⟨mid, hmid⟩ := h.above
  have hfr : (U.setTop g).frames = (.java g :: mid) ++ below := by rw [State.frames_setTop' g h.top, hmid]; rfl
  obtain ⟨o, s₂, hsteps, -, hend, hq⟩ := Steps.callFree hM p X.admits X.cas X.clock (acts := []) hfr happ hPc trivial
  have hq' : vx_Q Qc XC mc ms free a (U.calling g mk a) o s₂ := hq
  rw [State.frames_setTop' g h.top] at hend
  obtain ⟨g₀, hg0⟩ := Option.isSome_iff_exists.mp h.top
  obtain ⟨r, hr⟩ := State.topJava?_eq_some.mp hg0
  have hr' : (({ U with heap := s₂.heap, slotsUsed := s₂.slotsUsed } : State).setVm s₂.vm).frames = .java g₀ :: r := hr
  rcases hq' with ⟨hqc, L, hfe, hL⟩ | ⟨q, rfl, E, ce, L, hx, hce, hcv, hcl, hW₂, hsm, hL⟩
  · obtain ⟨⟨v, rfl⟩, hW₂, e2, q2, q3, q4, q5, q6⟩ := id hfe
    have e3 : s₂ = ({ (U.calling g mk a).setFrames s₂.frames with heap := s₂.heap, slotsUsed := s₂.slotsUsed } : State).setVm s₂.vm := by
      have : s₂ = ({ s₂ with vm := (U.calling g mk a).vm } : State).setVm s₂.vm := rfl
      rw [e2] at this
      exact this
    obtain ⟨c₂, i₂, len₂, hc₂, hd₂, hf₂⟩ := hend
    have hW' : U.WarmedH s₂.vm := hW₂
    have hcc : c₂ = c := by
      have h1 : s₂.code? g.method = U.code? g.method := by
        rw [State.code?_eq, State.code?_eq, hW'.alike.method?]
      exact Option.some.inj (hc₂.symm.trans (h1.trans h.code))
    subst hcc
    have hlen : len₂ = len := by rw [hdg] at hd₂; cases hd₂; rfl
    subst hlen
    have hs₂ : s₂ = (({ U with heap := s₂.heap, slotsUsed := s₂.slotsUsed } : State).setVm s₂.vm).setTop { g with pc := g.pc + len₂, stack := v.toList ++ g.stack } := by
      refine e3.trans ?_
      rw [hf₂, State.calling_eq h.top, State.setFrames_setFrames, State.setTop_of_frames _ hr', hr]
      rfl
    have hsame : U.sameButNew ({ U with heap := s₂.heap, slotsUsed := s₂.slotsUsed } : State) L mc ms := by
      refine ⟨?_, q2, q3, q4, q5, q6⟩
      obtain ⟨t, ht, -⟩ := State.frames_cons hr
      show ({ U with heap := s₂.heap, slotsUsed := s₂.slotsUsed } : State) = { U.setFrames U.frames with heap := s₂.heap, slotsUsed := s₂.slotsUsed }
      rw [State.setFrames_self ht]
    subst hg
    refine Or.inl ⟨v, ⟨(({ U with heap := s₂.heap, slotsUsed := s₂.slotsUsed } : State).setVm s₂.vm), Ls ++ L, c0 + mc, s0 + ms⟩,
      ⟨X.admits, X.cas, X.clock, X.frames, X.room, X.hears, X.method, X.code, (X.here.setHeapUsed s₂.heap s₂.slotsUsed).setVm hW'.alike, X.tail, State.WarmedH.trans X.warmed hW', X.limits, X.bytes, X.same.trans (hsame.setVm s.vm)⟩,
      ⟨g, mk, s₂, L, rfl, rfl, hqc, rfl, hL, rfl, rfl⟩, ?_⟩
    show Steps p.tables e below _ ((({ U with heap := s₂.heap, slotsUsed := s₂.slotsUsed } : State).setVm s₂.vm).setTop { g with pc := g.pc + len₂, stack := v.toList ++ g.stack })
    rw [← hs₂]
    exact hsteps
  · obtain ⟨e2, q2, q3, q4, q5, q6⟩ := id hsm
    have e3 : s₂ = ({ (U.calling g mk a).setFrames s₂.frames with heap := s₂.heap, slotsUsed := s₂.slotsUsed } : State).setVm s₂.vm := by
      have : s₂ = ({ s₂ with vm := (U.calling g mk a).vm } : State).setVm s₂.vm := rfl
      rw [e2] at this
      exact this
    have hf₂ : s₂.frames = .throwing q :: .java g :: U.frames.tail := hend
    have hW' : U.WarmedH s₂.vm := hW₂
    have hs₂ : s₂ = ((({ U with heap := s₂.heap, slotsUsed := s₂.slotsUsed } : State).setVm s₂.vm).setTop g).pushFrame (.throwing q) := by
      refine e3.trans ?_
      rw [hf₂, State.calling_eq h.top, State.setFrames_setFrames, State.pushFrame, State.frames_setTop _ hr', State.setTop_of_frames _ hr', State.setFrames_setFrames, hr]
      rfl
    have hsame : U.sameButNew ({ U with heap := s₂.heap, slotsUsed := s₂.slotsUsed } : State) L mc ms := by
      refine ⟨?_, q2, q3, q4, q5, q6⟩
      obtain ⟨t, ht, -⟩ := State.frames_cons hr
      show ({ U with heap := s₂.heap, slotsUsed := s₂.slotsUsed } : State) = { U.setFrames U.frames with heap := s₂.heap, slotsUsed := s₂.slotsUsed }
      rw [State.setFrames_self ht]
    subst hg
    refine Or.inr ⟨q, ⟨(({ U with heap := s₂.heap, slotsUsed := s₂.slotsUsed } : State).setVm s₂.vm), Ls ++ L, c0 + mc, s0 + ms⟩,
      ⟨X.admits, X.cas, X.clock, X.frames, X.room, X.hears, X.method, X.code, (X.here.setHeapUsed s₂.heap s₂.slotsUsed).setVm hW'.alike, X.tail, State.WarmedH.trans X.warmed hW', X.limits, X.bytes, X.same.trans (hsame.setVm s.vm)⟩,
      ⟨g, mk, s₂, L, E, ce, rfl, rfl, hx, hce, hcv, hcl, rfl, hL, rfl, rfl⟩, ?_⟩
    show Steps p.tables e below _ (((({ U with heap := s₂.heap, slotsUsed := s₂.slotsUsed } : State).setVm s₂.vm).setTop g).pushFrame (.throwing q))
    rw [← hs₂]
    exact hsteps
end Payer
section Calls
variable {p : Program} {l : Launch} {e : Env} {R : Room} {s : State} {m : MethodId} {args : Array Value} {below : List Frame} {meth : Method} {c : Code} {T : State} {locs : List Loc} {cells slots : Nat}
theorem vx_callV (X : Stand p l e R s m args below meth c T locs cells slots) (hexec : p.tables.exec = Jvm.exec) {own C : String} {index : Nat} {y : MethodName} {bytes : ByteArray} {maxL : Nat} {ret : Option FieldType}
    (hown : s.vm.findClass own = some m.cls) (hlink : (Cond.methodLink own index y).before args s = true) (hinst : (Cond.instanceMethod y).before args s = true) (hsel : (Cond.selects C y y).before args s = true)
    (hcode : (Cond.code y bytes maxL ret).before args s = true) (hy : y.cls ≠ "java/lang/invoke/MethodHandle" ∧ y.cls ≠ "java/lang/invoke/VarHandle")
    {W9 : Nat} {Pre : Pt → Array Value → Prop} {Post : Pt → Array Value → Option Value → Pt → Prop} {PostX : Pt → Array Value → Addr → Pt → Prop} (hK : vx_Back l R p e below s args y 3 W9 Pre Post PostX)
    {b : Addr} {cellB : Cell} (hcell : T.heap[b]? = some cellB) (hobj : cellB.vm.isStatics = false) (hcls : s.vm.findClass C = some cellB.cls)
    {g : JFrame} (hg : g.method = m) (hsize : g.locals.size = c.maxLocals) {argsL rest : List Value} (hlen : ∀ sig, parseMethodDescriptor y.desc = some sig → argsL.length = sig.parameters.length)
    (hstack : g.stack = argsL.reverse ++ .ref b :: rest) (hW : 2 * g.monitorRoom + (rest.map fun v => v.category).sum ≤ W9) (hdg : decode c.code g.pc = .ok (.invokevirtual index, 3))
    (hpre : ∀ vm₁, s.WarmedH vm₁ → Pre ⟨T.setVm vm₁, locs, cells, slots⟩ (Value.ref b :: argsL).toArray) :
    (∃ (v : Option Value) (vm₁ : Vm) (B : Pt), s.WarmedH vm₁ ∧ Stand p l e R s m args below meth c B.U B.locs B.cells B.slots ∧ Post ⟨T.setVm vm₁, locs, cells, slots⟩ (Value.ref b :: argsL).toArray v B ∧
      ∀ target, Steps p.tables e below (B.U.setTop { g with pc := g.pc + 3, stack := v.toList ++ rest }) target → Steps p.tables e below (T.setTop g) target) ∨
    (∃ (q : Addr) (vm₁ : Vm) (B : Pt), s.WarmedH vm₁ ∧ Stand p l e R s m args below meth c B.U B.locs B.cells B.slots ∧ PostX ⟨T.setVm vm₁, locs, cells, slots⟩ (Value.ref b :: argsL).toArray q B ∧
      Steps p.tables e below (T.setTop g) ((B.U.setTop { g with stack := rest }).pushFrame (.throwing q))) := by
  obtain ⟨mk, methM, hnamed, hmethM, hstM, habM⟩ := Cond.instanceMethod_spec hinst
  obtain ⟨methM', cM, hmethM', -, -, -, -, -, -, hsigM⟩ := Cond.code_spec hnamed hcode
  cases hmethM.symm.trans hmethM'
  obtain ⟨c2, r2, m2, q1, q2, q3, q4, kP, hkP, hkPi⟩ := Cond.selects_spec hsel
  cases hcls.symm.trans q1
  cases (State.methodFound?_of_named hnamed hy).symm.trans q2
  cases hnamed.symm.trans q3
  have hselP : selectMethod e.platform s.vm cellB.cls mk = .method mk := by rw [Launch.admits_selectMethod X.admits]; exact q4
  obtain ⟨vm₁, X₁, hstep₁⟩ := X.invokevirtual hexec hown hlink hnamed hmethM hstM hkP hkPi hy (a := b) (cell := cellB) hcell
    (fun z h => by rw [h] at hobj; cases hobj) hselP hmethM habM hkP hkPi (g := g) hg (argsL := argsL) (rest := rest) (hlen _ hsigM) hstack hdg
  rcases hK m meth c ⟨T.setVm vm₁, locs, cells, slots⟩ { g with stack := rest } (.invokevirtual index) mk (Value.ref b :: argsL).toArray X₁ hg hsize hdg hW (X₁.named hnamed) (hpre vm₁ X₁.warmed) with ⟨v, B, X', hpost, hsteps⟩ | ⟨q, B, X', hpost, hsteps⟩
  · exact Or.inl ⟨v, vm₁, B, X₁.warmed, X', hpost, fun target h => hstep₁ _ fun acts => by rw [doInvoke_state]; exact hsteps.trans h⟩
  · exact Or.inr ⟨q, vm₁, B, X₁.warmed, X', hpost, hstep₁ _ fun acts => by rw [doInvoke_state]; exact hsteps⟩
theorem vx_callS (X : Stand p l e R s m args below meth c T locs cells slots) (hexec : p.tables.exec = Jvm.exec) {own : String} {index : Nat} {y : MethodName} {bytes : ByteArray} {maxL : Nat} {ret : Option FieldType}
    (hown : s.vm.findClass own = some m.cls) (hlink : (Cond.methodLink own index y).before args s = true) (hstat : (Cond.static y).before args s = true) (hinit : (Cond.initialized y.cls).before args s = true)
    (hcode : (Cond.code y bytes maxL ret).before args s = true) (hy : y.cls ≠ "java/lang/invoke/MethodHandle" ∧ y.cls ≠ "java/lang/invoke/VarHandle")
    {W9 : Nat} {Pre : Pt → Array Value → Prop} {Post : Pt → Array Value → Option Value → Pt → Prop} {PostX : Pt → Array Value → Addr → Pt → Prop} (hK : vx_Back l R p e below s args y 3 W9 Pre Post PostX)
    {g : JFrame} (hg : g.method = m) (hsize : g.locals.size = c.maxLocals) {argsL rest : List Value} (hlen : ∀ sig, parseMethodDescriptor y.desc = some sig → argsL.length = sig.parameters.length)
    (hstack : g.stack = argsL.reverse ++ rest) (hW : 2 * g.monitorRoom + (rest.map fun v => v.category).sum ≤ W9) (hdg : decode c.code g.pc = .ok (.invokestatic index, 3))
    (hpre : ∀ vm₁, s.WarmedH vm₁ → Pre ⟨T.setVm vm₁, locs, cells, slots⟩ argsL.toArray) :
    (∃ (v : Option Value) (vm₁ : Vm) (B : Pt), s.WarmedH vm₁ ∧ Stand p l e R s m args below meth c B.U B.locs B.cells B.slots ∧ Post ⟨T.setVm vm₁, locs, cells, slots⟩ argsL.toArray v B ∧
      ∀ target, Steps p.tables e below (B.U.setTop { g with pc := g.pc + 3, stack := v.toList ++ rest }) target → Steps p.tables e below (T.setTop g) target) ∨
    (∃ (q : Addr) (vm₁ : Vm) (B : Pt), s.WarmedH vm₁ ∧ Stand p l e R s m args below meth c B.U B.locs B.cells B.slots ∧ PostX ⟨T.setVm vm₁, locs, cells, slots⟩ argsL.toArray q B ∧
      Steps p.tables e below (T.setTop g) ((B.U.setTop { g with stack := rest }).pushFrame (.throwing q))) := by
  obtain ⟨mk, hnamed⟩ := Cond.code_named hcode
  obtain ⟨methM, cM, hmethM, -, -, -, -, -, -, hsigM⟩ := Cond.code_spec hnamed hcode
  have hstatic : methM.isStatic = true := Cond.static_spec hnamed hmethM hstat
  obtain ⟨kP, hkP, -⟩ := className_of_methodNamed hnamed
  have hinitP : kP.init = .initialized := Cond.initialized_spec (findClass_of_methodNamed hnamed) hkP hinit
  obtain ⟨vm₁, X₁, hstep₁⟩ := X.invokestatic hexec hown hlink hnamed hmethM hstatic hkP hinitP hy (g := g) hg (argsL := argsL) (rest := rest) (hlen _ hsigM) hstack hdg
  rcases hK m meth c ⟨T.setVm vm₁, locs, cells, slots⟩ { g with stack := rest } (.invokestatic index) mk argsL.toArray X₁ hg hsize hdg hW (X₁.named hnamed) (hpre vm₁ X₁.warmed) with ⟨v, B, X', hpost, hsteps⟩ | ⟨q, B, X', hpost, hsteps⟩
  · exact Or.inl ⟨v, vm₁, B, X₁.warmed, X', hpost, fun target h => hstep₁ _ fun acts => by rw [doInvoke_state]; exact hsteps.trans h⟩
  · exact Or.inr ⟨q, vm₁, B, X₁.warmed, X', hpost, hstep₁ _ fun acts => by rw [doInvoke_state]; exact hsteps⟩
end Calls
theorem vx_cls {s : State} {T : State} {vm₁ : Vm} {E : String} {k : ClassId} (hW : s.WarmedH vm₁) (h : (T.setVm vm₁).vm.findClass E = some k) : s.vm.findClass E = some k := by
  have h1 : vm₁.findClass E = some k := h
  rw [hW.alike.findClass] at h1
  exact h1
/-- the method's frame g, with q thrown over it -/
def vx_W (p : Program) (l : Launch) (e : Env) (R : Room) (s : State) (m : MethodId) (args : Array Value) (below : List Frame) (meth : Method) (c : Code) (H : Heap) (locs : List Loc) (cells slots : Nat) (Q : State → Prop) (g : JFrame) (q : Addr) : Prop :=
  ∀ T : State, T.heap = H → Stand p l e R s m args below meth c T locs cells slots → ∃ t, Steps p.tables e below ((T.setTop g).pushFrame (.throwing q)) t ∧ Q t
def vx_Run (p : Program) (l : Launch) (e : Env) (R : Room) (s : State) (m : MethodId) (args : Array Value) (below : List Frame) (meth : Method) (c : Code) (H : Heap) (locs : List Loc) (cells slots mc ms : Nat) (g : JFrame) (rest : List Value) (Qa : State → Outcome → State → Prop) (XC : String → State → State → Prop) (free : Addr → Prop) : Prop :=
  ∀ T : State, T.heap = H → Stand p l e R s m args below meth c T locs cells slots →
    (∃ (v : Option Value) (st₀ t T' : State) (L : List Loc), st₀.heap = H ∧ Stand p l e R s m args below meth c T' (locs ++ L) (cells + mc) (slots + ms) ∧ (∀ q ∈ L, free q.base) ∧ T'.heap = t.heap ∧ T'.vm = t.vm ∧ Qa st₀ (.returned v) t ∧
      Goes p e below T g T' { g with pc := g.pc + 3, stack := v.toList ++ rest }) ∨
    (∃ (q : Addr) (st₀ t T' : State) (L : List Loc) (E : String) (ce : Cell), st₀.heap = H ∧ Stand p l e R s m args below meth c T' (locs ++ L) (cells + mc) (slots + ms) ∧ (∀ z ∈ L, free z.base) ∧ T'.heap = t.heap ∧ T'.vm = t.vm ∧ XC E st₀ t ∧ t.heap[q]? = some ce ∧ ce.vm = .none ∧ s.vm.findClass E = some ce.cls ∧
      Steps p.tables e below (T.setTop g) ((T'.setTop { g with stack := rest }).pushFrame (.throwing q)))
def vx_X {S : Type} (px : S → Prop) (B : String → S → State → Prop) (A : Nat → Prop) : String → State → State → Prop := fun E st t => ∃ u : S, px u ∧ B E u t ∧ va_F A st t
section Runs
variable {p : Program} {l : Launch} {e : Env} {R : Room} {s : State} {m : MethodId} {args : Array Value} {below : List Frame} {meth : Method} {c : Code} {H : Heap} {locs : List Loc} {cells slots : Nat}
variable {y : MethodName} {bytes cc : ByteArray} {maxL nL mc ms n index : Nat} {ret : Option FieldType} {ws : List Cond} {rm : Room} {Pc : Array Value → State → Prop} {Qc : Array Value → State → Outcome → State → Prop} {XC : String → State → State → Prop} {free : Addr → Prop} {Ts : List Cond} {own C : String} {b : Addr} {As rest : List Value} {g : JFrame}
theorem vx_callBack (cb : CallB R s args own index y bytes maxL ret ws rm mc ms n) (hM : vx_Met l y ws rm Pc Qc XC mc ms free) (hbl : FrameBlind Pc) : vx_Back l R p e below s args y 3 8 (PreOf R mc ms Pc) (PostOf Qc mc ms free) (vx_Post XC mc ms free) := by
  obtain ⟨hrc, hrs, hfr, hlo, hws, hcw, -, hini, -⟩ := cb
  exact vx_back (bytes := bytes) (maxL := maxL) (ret := ret) hM hbl hrc hrs hfr hlo hws hcw (fun a' U hW => word_at hW (Or.inl (by first | rfl | simp [Cond.onTables, Cond.keeps, Cond.steady])) hini)
theorem vx_runV (S : CallFix p m c cc nL s args Ts own) (hM : vx_Met l y ws rm Pc Qc XC mc ms free) (cw : CallW R s args own C index y bytes maxL ret ws rm mc ms n) (hp : PreV s H C b Pc As)
    (hg : g.method = m) (hn : As.length = n) (hsize : g.locals.size = nL) (hstack : g.stack = As.reverse ++ .ref b :: rest) (hW : 2 * g.monitorRoom + (rest.map fun v => v.category).sum ≤ 8) (hdg : decode cc g.pc = .ok (.invokevirtual index, 3)) (hf : cells + mc ≤ R.cells ∧ slots + ms ≤ R.slots) :
    vx_Run p l e R s m args below meth c H locs cells slots mc ms g rest (Qc (Value.ref b :: As).toArray) XC free := by
  have hK : vx_Back l R p e below s args y 3 8 (PreOf R mc ms Pc) (PostOf Qc mc ms free) (vx_Post XC mc ms free) := vx_callBack cw.1 hM hp.1
  obtain ⟨⟨-, -, -, -, -, -, hcode, -, hy, hlen, hl⟩, hin, hse⟩ := cw
  obtain ⟨hx, hb, hml, ho, -⟩ := S
  obtain ⟨-, ⟨cellB, hcB, hoB, hclB⟩, hPc⟩ := hp
  intro T hT X
  rcases vx_callV X hx (C := C) (bytes := bytes) (maxL := maxL) (ret := ret) ho hl hin hse hcode hy hK (by rw [hT]; exact hcB) hoB hclB hg (hsize.trans hml.symm) (argsL := As) (rest := rest) (fun sig h => hn.trans (hlen sig h)) hstack hW (by rw [hb]; exact hdg)
    (fun vm₁ hW₁ => ⟨hf.1, hf.2, hPc (T.setVm vm₁) hT hW₁⟩) with ⟨v, vm₁, ⟨U', l2, c2, s2⟩, hW₁, X', ⟨g', mk, t, L, e1, e2, hq, h1, hL, h2, h3⟩, st⟩ | ⟨q, vm₁, ⟨U', l2, c2, s2⟩, hW₁, X', ⟨g', mk, t, L, E, ce, e1, e2, hq, hce, hcv, hcl, h1, hL, h2, h3⟩, st⟩
  · dsimp only [Pt.U, Pt.locs, Pt.cells, Pt.slots] at X' e1 e2 h1 h2 h3 st
    subst h1; subst h2; subst h3
    exact Or.inl ⟨v, (T.setVm vm₁).calling g' mk (Value.ref b :: As).toArray, t, U', L, hT, X', hL, e1, e2, hq, st⟩
  · dsimp only [Pt.U, Pt.locs, Pt.cells, Pt.slots] at X' e1 e2 h1 h2 h3 st hcl
    subst h1; subst h2; subst h3
    exact Or.inr ⟨q, (T.setVm vm₁).calling g' mk (Value.ref b :: As).toArray, t, U', L, E, ce, hT, X', hL, e1, e2, hq, hce, hcv, vx_cls hW₁ hcl, st⟩
theorem vx_runS (S : CallFix p m c cc nL s args Ts own) (hM : vx_Met l y ws rm Pc Qc XC mc ms free) (cw : CallB R s args own index y bytes maxL ret ws rm mc ms n ∧ (Cond.static y).before args s = true) (hp : PreS s H Pc As)
    (hg : g.method = m) (hn : As.length = n) (hsize : g.locals.size = nL) (hstack : g.stack = As.reverse ++ rest) (hW : 2 * g.monitorRoom + (rest.map fun v => v.category).sum ≤ 8) (hdg : decode cc g.pc = .ok (.invokestatic index, 3)) (hf : cells + mc ≤ R.cells ∧ slots + ms ≤ R.slots) :
    vx_Run p l e R s m args below meth c H locs cells slots mc ms g rest (Qc As.toArray) XC free := by
  have hK : vx_Back l R p e below s args y 3 8 (PreOf R mc ms Pc) (PostOf Qc mc ms free) (vx_Post XC mc ms free) := vx_callBack cw.1 hM hp.1
  obtain ⟨⟨-, -, -, -, -, -, hcode, hini, hy, hlen, hl⟩, hstt⟩ := cw
  obtain ⟨hx, hb, hml, ho, -⟩ := S
  intro T hT X
  rcases vx_callS X hx (bytes := bytes) (maxL := maxL) (ret := ret) ho hl hstt hini hcode hy hK hg (hsize.trans hml.symm) (argsL := As) (rest := rest) (fun sig h => hn.trans (hlen sig h)) hstack hW (by rw [hb]; exact hdg)
    (fun vm₁ hW₁ => ⟨hf.1, hf.2, hp.2 (T.setVm vm₁) hT hW₁⟩) with ⟨v, vm₁, ⟨U', l2, c2, s2⟩, hW₁, X', ⟨g', mk, t, L, e1, e2, hq, h1, hL, h2, h3⟩, st⟩ | ⟨q, vm₁, ⟨U', l2, c2, s2⟩, hW₁, X', ⟨g', mk, t, L, E, ce, e1, e2, hq, hce, hcv, hcl, h1, hL, h2, h3⟩, st⟩
  · dsimp only [Pt.U, Pt.locs, Pt.cells, Pt.slots] at X' e1 e2 h1 h2 h3 st
    subst h1; subst h2; subst h3
    exact Or.inl ⟨v, (T.setVm vm₁).calling g' mk As.toArray, t, U', L, hT, X', hL, e1, e2, hq, st⟩
  · dsimp only [Pt.U, Pt.locs, Pt.cells, Pt.slots] at X' e1 e2 h1 h2 h3 st hcl
    subst h1; subst h2; subst h3
    exact Or.inr ⟨q, (T.setVm vm₁).calling g' mk As.toArray, t, U', L, E, ce, hT, X', hL, e1, e2, hq, hce, hcv, vx_cls hW₁ hcl, st⟩
end Runs
section Rows
variable {p : Program} {l : Launch} {e : Env} {R : Room} {s : State} {m : MethodId} {args : Array Value} {below : List Frame} {meth : Method} {c : Code} {H : Heap} {locs : List Loc} {cells slots : Nat} {Q : State → Prop}
variable {mc ms : Nat} {free : Addr → Prop} {A0 A1 : Nat → Prop} {H0 : Heap} {a : Array Value} {pc : Nat} {ls : Array Slot} {st0 rest : List Value}
theorem vx_keep {st₀ t T' : State} {L : List Loc} (h0 : st₀.heap = H) (e1 : T'.heap = t.heap) (hS : va_S A0 H0 H locs) (hA : ∀ q, q < H.size → A1 q → A0 q) (hf : ∀ q, free q → A0 q) (hL : ∀ q ∈ L, free q.base) (hF : va_F A1 st₀ t) :
    H.size ≤ T'.heap.size ∧ (∀ q : Nat, q < H.size → ¬ A1 q → T'.heap[q]? = H[q]?) ∧ va_S A0 H0 T'.heap (locs ++ L) := by
  obtain ⟨hz, hk⟩ := hF
  rw [h0] at hz hk
  exact ⟨by rw [e1]; exact hz, fun q h1 h2 => by rw [e1]; exact hk q h1 h2,
    ⟨Nat.le_trans hS.1 (by rw [e1]; exact hz), fun q h1 h2 => by rw [e1, hk q (Nat.lt_of_lt_of_le h1 hS.1) (fun z => h2 (hA q (Nat.lt_of_lt_of_le h1 hS.1) z))]; exact hS.2.1 q h1 h2, fun q hq => by
      rcases List.mem_append.mp hq with h | h
      · exact hS.2.2 q h
      · exact hf _ (hL q h)⟩⟩
theorem vx_calli {S SX : Type} {post : Int32 → S → Prop} {px : SX → Prop} {B : S → State → Prop} {BX : String → SX → State → Prop} {AX : Nat → Prop} (hr : vx_Run p l e R s m args below meth c H locs cells slots mc ms (F0 m pc ls st0) rest (va_Qi post B A1 a) (vx_X px BX AX) free) (hS : va_S A0 H0 H locs) (hA : ∀ q, q < H.size → A1 q → A0 q) (hf : ∀ q, free q → A0 q) (hAX : ∀ q, q < H.size → AX q → A0 q)
    (kx : ∀ (E : String) (ce : Cell) (q9 : Addr) (u : SX) (t : State) (H1 : Heap) (locs1 : List Loc), t.heap = H1 → s.vm.Alike t.vm → px u → BX E u t → H.size ≤ H1.size → (∀ q : Nat, q < H.size → ¬ AX q → H1[q]? = H[q]?) → va_S A0 H0 H1 locs1 → H1[q9]? = some ce → ce.vm = .none → s.vm.findClass E = some ce.cls → vx_W p l e R s m args below meth c H1 locs1 (cells + mc) (slots + ms) Q (F0 m pc ls rest) q9)
    (kk : ∀ (r : Int32) (u : S) (t : State) (H1 : Heap) (locs1 : List Loc), t.heap = H1 → s.vm.Alike t.vm → post r u → B u t → H.size ≤ H1.size → (∀ q : Nat, q < H.size → ¬ A1 q → H1[q]? = H[q]?) → va_S A0 H0 H1 locs1 → W p l e R s m args below meth c H1 locs1 (cells + mc) (slots + ms) Q (F0 m (pc + 3) ls (.int r :: rest))) : W p l e R s m args below meth c H locs cells slots Q (F0 m pc ls st0) := by
  intro T hT X
  rcases hr T hT X with ⟨v, st₀, t, T', L, h0, X', hL, e1, e2, ⟨⟨r, u, hv, hp, hb⟩, hF⟩, st⟩ | ⟨q, st₀, t, T', L, E, ce, h0, X', hL, e1, e2, ⟨u, hp, hb, hF⟩, hce, hcv, hcl, st⟩
  · cases hv
    obtain ⟨k1, k2, k3⟩ := vx_keep h0 e1 hS hA hf hL hF
    obtain ⟨t2, a1, b1⟩ := kk r u t T'.heap (locs ++ L) e1.symm (by rw [← e2]; exact X'.warmed.alike) hp hb k1 k2 k3 T' rfl X'
    exact ⟨t2, st t2 a1, b1⟩
  · obtain ⟨k1, k2, k3⟩ := vx_keep h0 e1 hS hAX hf hL hF
    obtain ⟨t2, a1, b1⟩ := kx E ce q u t T'.heap (locs ++ L) e1.symm (by rw [← e2]; exact X'.warmed.alike) hp hb k1 k2 k3 (by rw [e1]; exact hce) hcv hcl T' rfl X'
    exact ⟨t2, st.trans a1, b1⟩
theorem vx_calll {S SX : Type} {post : Int64 → S → Prop} {px : SX → Prop} {B : S → State → Prop} {BX : String → SX → State → Prop} {AX : Nat → Prop} (hr : vx_Run p l e R s m args below meth c H locs cells slots mc ms (F0 m pc ls st0) rest (va_Ql post B A1 a) (vx_X px BX AX) free) (hS : va_S A0 H0 H locs) (hA : ∀ q, q < H.size → A1 q → A0 q) (hf : ∀ q, free q → A0 q) (hAX : ∀ q, q < H.size → AX q → A0 q)
    (kx : ∀ (E : String) (ce : Cell) (q9 : Addr) (u : SX) (t : State) (H1 : Heap) (locs1 : List Loc), t.heap = H1 → s.vm.Alike t.vm → px u → BX E u t → H.size ≤ H1.size → (∀ q : Nat, q < H.size → ¬ AX q → H1[q]? = H[q]?) → va_S A0 H0 H1 locs1 → H1[q9]? = some ce → ce.vm = .none → s.vm.findClass E = some ce.cls → vx_W p l e R s m args below meth c H1 locs1 (cells + mc) (slots + ms) Q (F0 m pc ls rest) q9)
    (kk : ∀ (r : Int64) (u : S) (t : State) (H1 : Heap) (locs1 : List Loc), t.heap = H1 → s.vm.Alike t.vm → post r u → B u t → H.size ≤ H1.size → (∀ q : Nat, q < H.size → ¬ A1 q → H1[q]? = H[q]?) → va_S A0 H0 H1 locs1 → W p l e R s m args below meth c H1 locs1 (cells + mc) (slots + ms) Q (F0 m (pc + 3) ls (.long r :: rest))) : W p l e R s m args below meth c H locs cells slots Q (F0 m pc ls st0) := by
  intro T hT X
  rcases hr T hT X with ⟨v, st₀, t, T', L, h0, X', hL, e1, e2, ⟨⟨r, u, hv, hp, hb⟩, hF⟩, st⟩ | ⟨q, st₀, t, T', L, E, ce, h0, X', hL, e1, e2, ⟨u, hp, hb, hF⟩, hce, hcv, hcl, st⟩
  · cases hv
    obtain ⟨k1, k2, k3⟩ := vx_keep h0 e1 hS hA hf hL hF
    obtain ⟨t2, a1, b1⟩ := kk r u t T'.heap (locs ++ L) e1.symm (by rw [← e2]; exact X'.warmed.alike) hp hb k1 k2 k3 T' rfl X'
    exact ⟨t2, st t2 a1, b1⟩
  · obtain ⟨k1, k2, k3⟩ := vx_keep h0 e1 hS hAX hf hL hF
    obtain ⟨t2, a1, b1⟩ := kx E ce q u t T'.heap (locs ++ L) e1.symm (by rw [← e2]; exact X'.warmed.alike) hp hb k1 k2 k3 (by rw [e1]; exact hce) hcv hcl T' rfl X'
    exact ⟨t2, st.trans a1, b1⟩
theorem vx_callf {S SX : Type} {post : UInt32 → S → Prop} {px : SX → Prop} {B : S → State → Prop} {BX : String → SX → State → Prop} {AX : Nat → Prop} (hr : vx_Run p l e R s m args below meth c H locs cells slots mc ms (F0 m pc ls st0) rest (va_Qf post B A1 a) (vx_X px BX AX) free) (hS : va_S A0 H0 H locs) (hA : ∀ q, q < H.size → A1 q → A0 q) (hf : ∀ q, free q → A0 q) (hAX : ∀ q, q < H.size → AX q → A0 q)
    (kx : ∀ (E : String) (ce : Cell) (q9 : Addr) (u : SX) (t : State) (H1 : Heap) (locs1 : List Loc), t.heap = H1 → s.vm.Alike t.vm → px u → BX E u t → H.size ≤ H1.size → (∀ q : Nat, q < H.size → ¬ AX q → H1[q]? = H[q]?) → va_S A0 H0 H1 locs1 → H1[q9]? = some ce → ce.vm = .none → s.vm.findClass E = some ce.cls → vx_W p l e R s m args below meth c H1 locs1 (cells + mc) (slots + ms) Q (F0 m pc ls rest) q9)
    (kk : ∀ (r : UInt32) (u : S) (t : State) (H1 : Heap) (locs1 : List Loc), t.heap = H1 → s.vm.Alike t.vm → post r u → B u t → H.size ≤ H1.size → (∀ q : Nat, q < H.size → ¬ A1 q → H1[q]? = H[q]?) → va_S A0 H0 H1 locs1 → W p l e R s m args below meth c H1 locs1 (cells + mc) (slots + ms) Q (F0 m (pc + 3) ls (.float r :: rest))) : W p l e R s m args below meth c H locs cells slots Q (F0 m pc ls st0) := by
  intro T hT X
  rcases hr T hT X with ⟨v, st₀, t, T', L, h0, X', hL, e1, e2, ⟨⟨r, u, hv, hp, hb⟩, hF⟩, st⟩ | ⟨q, st₀, t, T', L, E, ce, h0, X', hL, e1, e2, ⟨u, hp, hb, hF⟩, hce, hcv, hcl, st⟩
  · cases hv
    obtain ⟨k1, k2, k3⟩ := vx_keep h0 e1 hS hA hf hL hF
    obtain ⟨t2, a1, b1⟩ := kk r u t T'.heap (locs ++ L) e1.symm (by rw [← e2]; exact X'.warmed.alike) hp hb k1 k2 k3 T' rfl X'
    exact ⟨t2, st t2 a1, b1⟩
  · obtain ⟨k1, k2, k3⟩ := vx_keep h0 e1 hS hAX hf hL hF
    obtain ⟨t2, a1, b1⟩ := kx E ce q u t T'.heap (locs ++ L) e1.symm (by rw [← e2]; exact X'.warmed.alike) hp hb k1 k2 k3 (by rw [e1]; exact hce) hcv hcl T' rfl X'
    exact ⟨t2, st.trans a1, b1⟩
theorem vx_calld {S SX : Type} {post : UInt64 → S → Prop} {px : SX → Prop} {B : S → State → Prop} {BX : String → SX → State → Prop} {AX : Nat → Prop} (hr : vx_Run p l e R s m args below meth c H locs cells slots mc ms (F0 m pc ls st0) rest (va_Qd post B A1 a) (vx_X px BX AX) free) (hS : va_S A0 H0 H locs) (hA : ∀ q, q < H.size → A1 q → A0 q) (hf : ∀ q, free q → A0 q) (hAX : ∀ q, q < H.size → AX q → A0 q)
    (kx : ∀ (E : String) (ce : Cell) (q9 : Addr) (u : SX) (t : State) (H1 : Heap) (locs1 : List Loc), t.heap = H1 → s.vm.Alike t.vm → px u → BX E u t → H.size ≤ H1.size → (∀ q : Nat, q < H.size → ¬ AX q → H1[q]? = H[q]?) → va_S A0 H0 H1 locs1 → H1[q9]? = some ce → ce.vm = .none → s.vm.findClass E = some ce.cls → vx_W p l e R s m args below meth c H1 locs1 (cells + mc) (slots + ms) Q (F0 m pc ls rest) q9)
    (kk : ∀ (r : UInt64) (u : S) (t : State) (H1 : Heap) (locs1 : List Loc), t.heap = H1 → s.vm.Alike t.vm → post r u → B u t → H.size ≤ H1.size → (∀ q : Nat, q < H.size → ¬ A1 q → H1[q]? = H[q]?) → va_S A0 H0 H1 locs1 → W p l e R s m args below meth c H1 locs1 (cells + mc) (slots + ms) Q (F0 m (pc + 3) ls (.double r :: rest))) : W p l e R s m args below meth c H locs cells slots Q (F0 m pc ls st0) := by
  intro T hT X
  rcases hr T hT X with ⟨v, st₀, t, T', L, h0, X', hL, e1, e2, ⟨⟨r, u, hv, hp, hb⟩, hF⟩, st⟩ | ⟨q, st₀, t, T', L, E, ce, h0, X', hL, e1, e2, ⟨u, hp, hb, hF⟩, hce, hcv, hcl, st⟩
  · cases hv
    obtain ⟨k1, k2, k3⟩ := vx_keep h0 e1 hS hA hf hL hF
    obtain ⟨t2, a1, b1⟩ := kk r u t T'.heap (locs ++ L) e1.symm (by rw [← e2]; exact X'.warmed.alike) hp hb k1 k2 k3 T' rfl X'
    exact ⟨t2, st t2 a1, b1⟩
  · obtain ⟨k1, k2, k3⟩ := vx_keep h0 e1 hS hAX hf hL hF
    obtain ⟨t2, a1, b1⟩ := kx E ce q u t T'.heap (locs ++ L) e1.symm (by rw [← e2]; exact X'.warmed.alike) hp hb k1 k2 k3 (by rw [e1]; exact hce) hcv hcl T' rfl X'
    exact ⟨t2, st.trans a1, b1⟩
theorem vx_callv {S SX : Type} {post : S → Prop} {px : SX → Prop} {B : S → State → Prop} {BX : String → SX → State → Prop} {AX : Nat → Prop} (hr : vx_Run p l e R s m args below meth c H locs cells slots mc ms (F0 m pc ls st0) rest (va_Qv post B A1 a) (vx_X px BX AX) free) (hS : va_S A0 H0 H locs) (hA : ∀ q, q < H.size → A1 q → A0 q) (hf : ∀ q, free q → A0 q) (hAX : ∀ q, q < H.size → AX q → A0 q)
    (kx : ∀ (E : String) (ce : Cell) (q9 : Addr) (u : SX) (t : State) (H1 : Heap) (locs1 : List Loc), t.heap = H1 → s.vm.Alike t.vm → px u → BX E u t → H.size ≤ H1.size → (∀ q : Nat, q < H.size → ¬ AX q → H1[q]? = H[q]?) → va_S A0 H0 H1 locs1 → H1[q9]? = some ce → ce.vm = .none → s.vm.findClass E = some ce.cls → vx_W p l e R s m args below meth c H1 locs1 (cells + mc) (slots + ms) Q (F0 m pc ls rest) q9)
    (kk : ∀ (u : S) (t : State) (H1 : Heap) (locs1 : List Loc), t.heap = H1 → s.vm.Alike t.vm → post u → B u t → H.size ≤ H1.size → (∀ q : Nat, q < H.size → ¬ A1 q → H1[q]? = H[q]?) → va_S A0 H0 H1 locs1 → W p l e R s m args below meth c H1 locs1 (cells + mc) (slots + ms) Q (F0 m (pc + 3) ls (rest))) : W p l e R s m args below meth c H locs cells slots Q (F0 m pc ls st0) := by
  intro T hT X
  rcases hr T hT X with ⟨v, st₀, t, T', L, h0, X', hL, e1, e2, ⟨⟨u, hv, hp, hb⟩, hF⟩, st⟩ | ⟨q, st₀, t, T', L, E, ce, h0, X', hL, e1, e2, ⟨u, hp, hb, hF⟩, hce, hcv, hcl, st⟩
  · cases hv
    obtain ⟨k1, k2, k3⟩ := vx_keep h0 e1 hS hA hf hL hF
    obtain ⟨t2, a1, b1⟩ := kk u t T'.heap (locs ++ L) e1.symm (by rw [← e2]; exact X'.warmed.alike) hp hb k1 k2 k3 T' rfl X'
    exact ⟨t2, st t2 a1, b1⟩
  · obtain ⟨k1, k2, k3⟩ := vx_keep h0 e1 hS hAX hf hL hF
    obtain ⟨t2, a1, b1⟩ := kx E ce q u t T'.heap (locs ++ L) e1.symm (by rw [← e2]; exact X'.warmed.alike) hp hb k1 k2 k3 (by rw [e1]; exact hce) hcv hcl T' rfl X'
    exact ⟨t2, st.trans a1, b1⟩
end Rows
section Ends
variable {p : Program} {l : Launch} {e : Env} {R : Room} {s : State} {m : MethodId} {args : Array Value} {below : List Frame} {meth : Method} {c : Code} {H : Heap} {locs : List Loc} {cells slots : Nat} {Q : State → Prop}
variable {mc ms : Nat} {free : Addr → Prop} {A0 A1 : Nat → Prop} {H0 : Heap} {a : Array Value} {ls : Array Slot} {st0 rest : List Value}
variable {Qc : Array Value → State → Outcome → State → Prop} {XC : String → State → State → Prop}
/-- what a body that may throw owes at its end -/
def vx_MQ (below : List Frame) (Qc : Array Value → State → Outcome → State → Prop) (XC : String → State → State → Prop) (a : Array Value) (s : State) (mc ms : Nat) (free : Addr → Prop) : State → Prop := fun t =>
  ∃ o, t.status = .running ∧ Ended t below o ∧ vx_Q Qc XC mc ms free a s o t
theorem vx_ret {g : JFrame} {mc ms : Nat} (k : W p l e R s m args below meth c H locs cells slots (MQ below Qc args s mc ms free) g) : W p l e R s m args below meth c H locs cells slots (vx_MQ below Qc XC args s mc ms free) g := by
  intro T hT X
  obtain ⟨t, a1, o, b1, b2, b3, b4⟩ := k T hT X
  exact ⟨t, a1, o, b1, b2, Or.inl ⟨b3, b4⟩⟩
/-- not caught here: it goes on to the caller -/
theorem vx_widen {g : JFrame} {q : Addr} {k n : Nat} (h1 : cells ≤ k) (h2 : slots ≤ n) (kk : vx_W p l e R s m args below meth c H locs k n Q g q) : vx_W p l e R s m args below meth c H locs cells slots Q g q := fun T hT X => kk T hT (stand_widen X h1 h2)
theorem vx_out {pc : Nat} {E : String} {ce : Cell} {q : Addr} {mc ms : Nat} (hout : ∀ x ∈ c.exceptionTable.toList, covers x pc = false) (hlocks : meth.locks = false) (hcell : H[q]? = some ce) (hv : ce.vm = .none) (hcl : s.vm.findClass E = some ce.cls)
    (hx : ∀ t : State, t.heap = H → s.vm.Alike t.vm → XC E s t) (hf : ∀ z ∈ locs, free z.base) (hc : cells ≤ mc) (hs : slots ≤ ms) :
    vx_W p l e R s m args below meth c H locs cells slots (vx_MQ below Qc XC args s mc ms free) (F0 m pc ls rest) q := by
  intro T hT X
  obtain ⟨st1, hrun, hend, hW, hsm⟩ := X.leaveThrown q (g := F0 m pc ls rest) rfl rfl rfl hout hlocks
  have hcell9 : (T.setFrames (.throwing q :: below)).heap[q]? = some ce := by
    show T.heap[q]? = some ce
    rw [hT]; exact hcell
  exact ⟨_, st1, .threw q, hrun, hend, Or.inr ⟨q, rfl, E, ce, locs, hx _ hT hW.alike, hcell9, hv, hcl, hW, hsm.mono hc hs, hf⟩⟩
theorem vx_frame {U : State} {k n : Nat} (h : s.sameButNew ({ U with vm := s.vm } : State) locs k n) : s.heap.size ≤ U.heap.size ∧ ∀ q : Nat, q < s.heap.size → (∀ z ∈ locs, z.base ≠ q) → U.heap[q]? = s.heap[q]? := by
  obtain ⟨-, h2, -, -, -, h6⟩ := h
  refine ⟨h2, fun q hq hz => ?_⟩
  obtain ⟨c9, e1, e2, e3, e4⟩ := h6 q _ (Array.getElem?_eq_getElem hq)
  have hs : c9.slots = (s.heap[q]).slots := Array.ext_getElem? fun i => e4 i fun hm => hz _ hm rfl
  have h9 : c9 = s.heap[q] := by
    rw [hs] at e2
    exact e2
  have e5 : U.heap[q]? = some c9 := e1
  rw [e5, h9, Array.getElem?_eq_getElem hq]
/-- the words of a throw but the four that speak of the heap -/
def vx_no (w : Cond) : Bool := decide (w ≠ .isRef (.static Bundle.tN "UNASSIGNED_STACK" Bundle.steD)) && decide (w ≠ .isRef (.static Bundle.tN "SUPPRESSED_SENTINEL" Bundle.listD)) && decide (w ≠ .laysStatic Bundle.tN "UNASSIGNED_STACK" Bundle.steD) && decide (w ≠ .laysStatic Bundle.tN "SUPPRESSED_SENTINEL" Bundle.listD)
def vx_at0 (own : String) (ic : Nat) (X : String) (names : List String) : List Cond := (Bundle.ownAtoms0 own ic X names).filter vx_no
def vx_atS (own : String) (ic : Nat) (X : String) (names : List String) : List Cond := (Bundle.ownAtoms own ic X names).filter vx_no
/-- a word that the tables alone decide, or a good one -/
def vx_ot (w : Cond) : Bool := w.onTables || goodWord w
theorem vx_ot_at {args a' : Array Value} {s U : State} {w : Cond} (hW : s.WarmedH U.vm) (hvm : s.vm = U.vm) (hg : vx_ot w = true) (h : w.before args s = true) : w.before a' U = true := by
  simp only [vx_ot, Bool.or_eq_true] at hg
  rcases hg with hg | hg
  · exact va_tabs hg hvm h
  · exact word_at hW (good_of_word hg) h
/-- a list's words: the good ones out of the method's own list, the others by premises of their own -/
theorem vx_hat {args : Array Value} {s : State} {L B : List Cond} (h1 : ∀ w ∈ L.filter goodWord, w.before args s = true) (h2 : ∀ w ∈ L.filter (fun w => !goodWord w), w ∈ B) (h3 : ∀ w ∈ B, w.before args s = true) : ∀ w ∈ L, w.before args s = true := by
  intro w hw
  by_cases g : goodWord w = true
  · exact h1 w (List.mem_filter.mpr ⟨hw, g⟩)
  · refine h3 w (h2 w (List.mem_filter.mpr ⟨hw, ?_⟩))
    show (!goodWord w) = true
    cases hgw : goodWord w
    · rfl
    · exact absurd hgw g
theorem vx_c {args : Array Value} {s : State} {w : Cond} {B : List Cond} (h : w.before args s = true) (t : ∀ w ∈ B, w.before args s = true) : ∀ w' ∈ w :: B, w'.before args s = true := fun w' h' => (List.mem_cons.mp h').elim (fun e => by rw [e]; exact h) (t w')
theorem vx_n {args : Array Value} {s : State} : ∀ w ∈ ([] : List Cond), w.before args s = true := fun _ h => nomatch h
theorem vx_own {args : Array Value} {s : State} {L : List Cond} (h1 : ∀ w ∈ L.filter vx_no, w.before args s = true)
    (hU : (Cond.isRef (.static Bundle.tN "UNASSIGNED_STACK" Bundle.steD)).before args s = true) (hN : (Cond.isRef (.static Bundle.tN "SUPPRESSED_SENTINEL" Bundle.listD)).before args s = true)
    (lU : (Cond.laysStatic Bundle.tN "UNASSIGNED_STACK" Bundle.steD).before args s = true) (lN : (Cond.laysStatic Bundle.tN "SUPPRESSED_SENTINEL" Bundle.listD).before args s = true) : ∀ w ∈ L, w.before args s = true := by
  intro w hw
  by_cases e1 : w = .isRef (.static Bundle.tN "UNASSIGNED_STACK" Bundle.steD)
  · rw [e1]; exact hU
  · by_cases e2 : w = .isRef (.static Bundle.tN "SUPPRESSED_SENTINEL" Bundle.listD)
    · rw [e2]; exact hN
    · by_cases e3 : w = .laysStatic Bundle.tN "UNASSIGNED_STACK" Bundle.steD
      · rw [e3]; exact lU
      · by_cases e4 : w = .laysStatic Bundle.tN "SUPPRESSED_SENTINEL" Bundle.listD
        · rw [e4]; exact lN
        · exact h1 w (List.mem_filter.mpr ⟨hw, by unfold vx_no; rw [decide_eq_true e1, decide_eq_true e2, decide_eq_true e3, decide_eq_true e4]; rfl⟩)
/-- where a static field lies, its class's statics cell in H -/
def vx_L (C n d : String) (A : Nat → Prop) (U : State) (H : Heap) : Prop := ∃ (c : ClassId) (k : Class) (i : Nat) (f : Field) (a : Nat) (cell : Cell), U.vm.findClass C = some c ∧ U.fieldFound? C n d = some (c, k, i, f) ∧ f.isStatic = true ∧ k.statics = some a ∧ H[a]? = some cell ∧ cell.vm.isStatics = true ∧ cell.cls = c ∧ f.slot < cell.slots.size ∧ k.staticTypes[f.slot]? = some f.type ∧ ¬ A a
theorem vx_L.moved {C n d : String} {A : Nat → Prop} {u U : State} {H : Heap} (hvm : u.vm.Alike U.vm) (h : vx_L C n d A u H) : vx_L C n d A U H := by
  obtain ⟨c, k, i, f, a, cell, h1, h2, h3, h4, h5, h6, h7, h8, h9, h10⟩ := h
  obtain ⟨k', hi', he⟩ := State.fieldFound?_setVm hvm h2
  exact ⟨c, k', i, f, a, cell, by rw [hvm.findClass]; exact h1, hi', h3, by rw [he]; exact h4, h5, h6, h7, h8, by rw [he]; exact h9, h10⟩
theorem vx_L.kept {C n d : String} {A : Nat → Prop} {U : State} {H H1 : Heap} (h : vx_L C n d A U H) (hq : ∀ a : Nat, a < H.size → ¬ A a → H1[a]? = H[a]?) : vx_L C n d A U H1 := by
  obtain ⟨c, k, i, f, a, cell, h1, h2, h3, h4, h5, h6, h7, h8, h9, h10⟩ := h
  exact ⟨c, k, i, f, a, cell, h1, h2, h3, h4, by rw [hq a (Array.getElem?_eq_some_iff.mp h5).1 h10]; exact h5, h6, h7, h8, h9, h10⟩
theorem vx_L.narrow {C n d : String} {A B : Nat → Prop} {U : State} {H : Heap} (h : vx_L C n d A U H) (hAB : ∀ q, B q → A q) : vx_L C n d B U H := by
  obtain ⟨c, k, i, f, a, cell, h1, h2, h3, h4, h5, h6, h7, h8, h9, h10⟩ := h
  exact ⟨c, k, i, f, a, cell, h1, h2, h3, h4, h5, h6, h7, h8, h9, fun z => h10 (hAB _ z)⟩
theorem vx_L.word {C n d : String} {A : Nat → Prop} {s : State} {args : Array Value} (h : vx_L C n d A s s.heap) : (Cond.laysStatic C n d).before args s = true := by
  obtain ⟨c, k, i, f, a, cell, h1, h2, h3, h4, h5, h6, h7, h8, h9, -⟩ := h
  show (Cond.laysStatic C n d).holds args s none s [] = true
  exact Cond.laysStatic_of h1 h2 h3 h4 h5 h6 h7 h8 h9
/-- .. and what it holds: null or some reference -/
def vx_Zq (C n d : String) (A : Nat → Prop) (U : State) (H : Heap) : Prop := va_Zq C n d A U H ∧ vx_L C n d A U H
theorem vx_Zq.moved {C n d : String} {A : Nat → Prop} {u U : State} {H : Heap} (hvm : u.vm.Alike U.vm) (h : vx_Zq C n d A u H) : vx_Zq C n d A U H := ⟨va_Zq.moved hvm h.1, vx_L.moved hvm h.2⟩
theorem vx_Zq.kept {C n d : String} {A : Nat → Prop} {U : State} {H H1 : Heap} (h : vx_Zq C n d A U H) (hq : ∀ a : Nat, a < H.size → ¬ A a → H1[a]? = H[a]?) : vx_Zq C n d A U H1 := ⟨va_Zq.kept h.1 hq, vx_L.kept h.2 hq⟩
theorem vx_Zq.narrow {C n d : String} {A B : Nat → Prop} {U : State} {H : Heap} (h : vx_Zq C n d A U H) (hAB : ∀ q, B q → A q) : vx_Zq C n d B U H := ⟨va_Zq.narrow h.1 hAB, vx_L.narrow h.2 hAB⟩
theorem vx_Zqof {args : Array Value} {s : State} {C n d : String} {A : Nat → Prop} (hl : (Cond.laysStatic C n d).before args s = true) (hini : (Cond.initialized C).before args s = true) (h : (Cond.isRef (.static C n d)).before args s = true) (hA : ∀ a : Nat, a < s.heap.size → ¬ A a) : vx_Zq C n d A s s.heap := by
  refine ⟨va_Zqof hl hini h hA, ?_⟩
  obtain ⟨c, k, i, f, a, cell, h1, h2, h3, h4, h5, h6, h7, h8, h9⟩ := Cond.laysStatic_spec hl
  exact ⟨c, k, i, f, a, cell, h1, h2, h3, h4, h5, h6, h7, h8, h9, hA a (Array.getElem?_eq_some_iff.mp h5).1⟩
theorem vx_isRef {C n d : String} {v : Value} {A : Nat → Prop} {s : State} {args : Array Value} (h : va_Z C n d v A s s.heap) (hv : v.isRef = true) : (Cond.isRef (.static C n d)).before args s = true := by
  obtain ⟨cf, kf, fi, f, a, cell, h1, h2, h3, h4, h5, h6, h7, -⟩ := h
  have he : (Term.static C n d).eval args s none [] s = some v := by
    simp [Term.eval, State.fieldNamed?, h1, h2, h4, h5, h6, h7]
  simp only [Cond.before, Cond.holds, Cond.value, he]
  cases v <;> simp_all [Value.isRef]
theorem vx_isRefq {C n d : String} {A : Nat → Prop} {s : State} {args : Array Value} (h : va_Zq C n d A s s.heap) : (Cond.isRef (.static C n d)).before args s = true := by
  rcases h with h | ⟨t, h⟩
  · exact vx_isRef h rfl
  · exact vx_isRef h rfl
/-- the same frame, seen from here: as if the method were called anew in this heap -/
theorem vx_rebase {T : State} (X : Stand p l e R s m args below meth c T locs cells slots) {R' : Room} (hf : R'.frames ≤ R.frames) (hl : R'.locals ≤ R.locals) (hc : cells + R'.cells ≤ R.cells) (hs : slots + R'.slots ≤ R.slots) :
    Stand p l e R' ((T.setVm s.vm).setFrames (.invoking m args :: below)) m args below meth c T [] 0 0 := by
  have htop : (T.setVm s.vm).topJava?.isSome := X.here.top
  have hF : ((T.setVm s.vm).setFrames (.invoking m args :: below)).frames = .invoking m args :: below := State.frames_setFrames _ (State.cur_lt_of_top htop)
  obtain ⟨g₀, hg0⟩ := Option.isSome_iff_exists.mp htop
  obtain ⟨r, hr⟩ := State.topJava?_eq_some.mp hg0
  have hl9 : e.platform.stackLimits (T.setVm s.vm).me = e.platform.stackLimits s.me := X.limits
  have hb9 : (T.setVm s.vm).me.stackBytes = s.me.stackBytes := X.bytes
  refine ⟨X.admits, X.cas, X.clock, hF, ?_, X.hears, X.method, X.code, X.here, X.tail, X.warmed, ?_, ?_, ?_⟩
  · have h := X.room
    have hU : ((T.setVm s.vm).setFrames (.invoking m args :: below)).localsInUse = s.localsInUse := by
      rw [State.localsInUse_invoking hF (meth := meth) (c := c) X.method X.code, State.localsInUse_invoking X.frames X.method X.code]
    simp only [State.hasRoom, Bool.and_eq_true, decide_eq_true_eq] at h ⊢
    obtain ⟨⟨⟨⟨h1, h2, h3, h4, h5, h6⟩, h7⟩, h8⟩, h9⟩ := h
    rw [X.frames, List.length_cons] at h2 h3
    have q1 := X.heapSize
    have q2 := X.used
    simp only [hF, hU, List.length_cons, State.stackLimits_setFrames, State.stackBytes_setFrames, hl9, hb9]
    refine ⟨⟨⟨⟨by omega, by omega, by omega, by omega, by omega, h6⟩, ?_⟩, ?_⟩, X.book⟩
    · show T.heap.size + R'.cells ≤ e.platform.maxCells
      omega
    · show T.slotsUsed + R'.slots ≤ e.platform.maxSlots
      omega
  · rw [State.stackLimits_setFrames]; rfl
  · rw [State.stackBytes_setFrames]; rfl
  · refine ⟨?_, Nat.le_refl _, Nat.le_refl _, ?_, ?_, fun a c9 h9 => ⟨c9, h9, rfl, rfl, fun _ _ => rfl⟩⟩
    · obtain ⟨t, ht, -⟩ := State.frames_cons hr
      show T.setVm s.vm = { ((T.setVm s.vm).setFrames (.invoking m args :: below)).setFrames (T.setVm s.vm).frames with heap := T.heap, slotsUsed := T.slotsUsed }
      rw [State.setFrames_setFrames, State.setFrames_self ht]
      rfl
    · show T.slotsUsed = T.slotsUsed + ((T.heap.toList.drop T.heap.size).map (·.slots.size)).sum
      rw [List.drop_eq_nil_of_le (Nat.le_of_eq Array.length_toList)]
      rfl
    · show ((T.heap.toList.drop T.heap.size).map (·.slots.size)).sum ≤ 0
      rw [List.drop_eq_nil_of_le (Nat.le_of_eq Array.length_toList)]
      exact Nat.le_refl _
/-- 'throw new E()': new; dup; invokespecial; athrow -/
theorem vx_throw0 {cc : ByteArray} {pc : Nat} (hexec : p.tables.exec = Jvm.exec) (hb : c.code = cc) (hl : l.stackTraces = false) {own cls : String} {names : List String} {ik ic mc ms : Nat} {A : Nat → Prop}
    (hown : s.vm.findClass own = some m.cls) (hcls : Bundle.fit cls = true) (hnames : ∀ n ∈ names, Bundle.fit n = true)
    (hk : (Cond.classLink own ik cls).before args s = true) (hini : (Cond.initialized cls).before args s = true) (hat : ∀ w ∈ vx_at0 own ic cls names, w.before args s = true)
    (hgood : ∀ w ∈ Cond.classLink own ik cls :: Cond.initialized cls :: vx_at0 own ic cls names, vx_ot w = true)
    (hU : vx_Zq Bundle.tN "UNASSIGNED_STACK" Bundle.steD A s s.heap) (hN : vx_Zq Bundle.tN "SUPPRESSED_SENTINEL" Bundle.listD A s s.heap) (hS : va_S A s.heap H locs) (hsize : ls.size = c.maxLocals)
    (d0 : decode cc pc = .ok (.new ik, 3)) (d3 : decode cc (pc + 3) = .ok (.dup, 1)) (d4 : decode cc (pc + 4) = .ok (.invokespecial ic, 3)) (d7 : decode cc (pc + 7) = .ok (.athrow, 1))
    (hout : ∀ x ∈ c.exceptionTable.toList, covers x (pc + 7) = false)
    (hRframes : names.length + 3 < R.frames) (hRlocals : (rest.map fun v => v.category).sum + (13 * (names.length + 1) + 42) ≤ R.locals) (hRcells : cells + 1 ≤ R.cells) (hRslots : slots + 6 ≤ R.slots) (hlocks : meth.locks = false)
    (hx : ∀ t : State, s.vm.Alike t.vm → H.size ≤ t.heap.size → (∀ q : Nat, q < H.size → t.heap[q]? = H[q]?) → XC cls s t)
    (hf : ∀ z ∈ locs, free z.base) (hc : cells + 1 ≤ mc) (hs : slots + 6 ≤ ms) :
    W p l e R s m args below meth c H locs cells slots (vx_MQ below Qc XC args s mc ms free) (F0 m pc ls rest) := by
  intro T hT X
  have htr : e.platform.stackTraces = false := (show e.platform.stackTraces = l.stackTraces by rw [X.admits.platform]).trans hl
  have Y := vx_rebase X (R' := { frames := R.frames, locals := R.locals, cells := 1, slots := 6 }) (Nat.le_refl _) (Nat.le_refl _) hRcells hRslots
  obtain ⟨s', hA⟩ : ∃ z, z = (T.setVm s.vm).setFrames (.invoking m args :: below) := ⟨_, rfl⟩
  rw [← hA] at Y
  have hvm : s'.vm = s.vm := by rw [hA]; rfl
  have hhp : s'.heap = H := by rw [hA]; exact hT
  have hW0 : s.WarmedH s'.vm := by rw [hvm]; exact State.WarmedH.refl s
  have hat' : ∀ w ∈ vx_at0 own ic cls names, w.before args s' = true := fun w hw => vx_ot_at hW0 hvm.symm (hgood w (List.mem_cons_of_mem _ (List.mem_cons_of_mem _ hw))) (hat w hw)
  have hk' : (Cond.classLink own ik cls).before args s' = true := vx_ot_at hW0 hvm.symm (hgood _ List.mem_cons_self) hk
  have hini' : (Cond.initialized cls).before args s' = true := vx_ot_at hW0 hvm.symm (hgood _ (List.mem_cons_of_mem _ List.mem_cons_self)) hini
  have hU' : vx_Zq Bundle.tN "UNASSIGNED_STACK" Bundle.steD A s' s'.heap := by rw [hhp]; exact vx_Zq.moved hW0.alike (hU.kept hS.2.1)
  have hN' : vx_Zq Bundle.tN "SUPPRESSED_SENTINEL" Bundle.listD A s' s'.heap := by rw [hhp]; exact vx_Zq.moved hW0.alike (hN.kept hS.2.1)
  have h : ∀ w ∈ Bundle.ownAtoms0 own ic cls names, w.before args s' = true := vx_own hat' (vx_isRefq hU'.1) (vx_isRefq hN'.1) hU'.2.word hN'.2.word
  have hown' : s'.vm.findClass own = some m.cls := by rw [hvm]; exact hown
  have hins : (Cond.instantiable cls 6).before args s' = true := h _ (by simp [Bundle.ownAtoms0])
  obtain ⟨vm₁, cX, kX, hfX, hkX, -, -, X₁, st1⟩ := Y.newCold hexec (own := own) (C := cls) (index := ik) (n := 6) hown' hk' hins hini'
    (g := F0 m pc ls rest) rfl (by rw [hb]; exact d0) (Nat.le_refl _) (Nat.le_refl _)
  generalize hT1 : (T.setVm vm₁).pushCell { cls := cX, slots := kX.instanceTypes.map defaultValue, vm := .none } = T1 at X₁ st1
  have hcat : (Value.ref T.heap.size).category = 1 := rfl
  have hcellA : T1.heap[T.heap.size]? = some (freshCell cX kX) := by rw [← hT1]; exact State.heap_pushCell_size _ _
  have d3' : decode c.code (pc + 3) = .ok (.dup, 1) := by rw [hb]; exact d3
  obtain ⟨U, hsteps, hrun, hend, hW, hsame, ce, hce, hO⟩ := X₁.ctorThrow0 hexec htr (own := own) (cls := cls) (names := names) (ic := ic) hown' hcls hnames h (fun x hx => nomatch hx) hfX hkX hcellA (by rw [hhp, hT]; exact Nat.le_refl _)
    (g := { method := m, pc := pc + 4, locals := ls, stack := .ref T.heap.size :: .ref T.heap.size :: rest, locked := none }) rfl hsize rfl rfl (rest := rest) rfl
    (by rw [hb]; exact d4) (by rw [hb]; exact d7) hout hRframes (by simp only [List.map_cons, List.sum_cons, hcat]; omega) hlocks
  obtain ⟨f1, f2⟩ := vx_frame hsame
  rw [hhp] at f1 f2
  have hWs : s.WarmedH U.vm := State.WarmedH.trans hW0 hW
  have hcl : s.vm.findClass cls = some ce.cls := by
    have h9 := hO.cls
    rw [hvm] at h9
    exact h9
  have hall : s.sameButNew ({ U with vm := s.vm } : State) locs mc ms := by
    subst hA
    obtain ⟨e1, e2⟩ := hsame
    rw [State.setFrames_setFrames] at e1
    have h2 : (T.setVm s.vm).sameButNew ({ U with vm := s.vm } : State) [] (0 + 1) (0 + 6) := ⟨e1, e2⟩
    have h3 := X.same.trans h2
    rw [List.append_nil] at h3
    exact h3.mono hc hs
  refine ⟨U, ?_, .threw T.heap.size, hrun, hend, Or.inr ⟨T.heap.size, rfl, cls, ce, locs, hx U hWs.alike f1 (fun q hq => f2 q hq (fun z hz => nomatch hz)), hce, hO.vm, hcl, hWs, hall, hf⟩⟩
  refine st1 _ ?_
  show Steps p.tables e below (T1.setTop { method := m, pc := pc + 3, locals := ls, stack := .ref T.heap.size :: rest, locked := none }) _
  jvm_step X₁.here [X₁.here.top, hexec, d3', Value.category]
  exact hsteps
/-- 'throw new E("text")': new; dup; ldc; invokespecial; athrow -/
theorem vx_throwS {cc : ByteArray} {pc : Nat} (hexec : p.tables.exec = Jvm.exec) (hb : c.code = cc) (hl : l.stackTraces = false) {own cls text : String} {names : List String} {ik is ic mc ms sa : Nat} {A : Nat → Prop}
    (hown : s.vm.findClass own = some m.cls) (hcls : Bundle.fit cls = true) (hnames : ∀ n ∈ names, Bundle.fit n = true)
    (hk : (Cond.classLink own ik cls).before args s = true) (hini : (Cond.initialized cls).before args s = true) (hstr : vk_R own is text sa s) (hat : ∀ w ∈ vx_atS own ic cls names, w.before args s = true)
    (hgood : ∀ w ∈ Cond.classLink own ik cls :: Cond.initialized cls :: vx_atS own ic cls names, vx_ot w = true)
    (hU : vx_Zq Bundle.tN "UNASSIGNED_STACK" Bundle.steD A s s.heap) (hN : vx_Zq Bundle.tN "SUPPRESSED_SENTINEL" Bundle.listD A s s.heap) (hS : va_S A s.heap H locs) (hsize : ls.size = c.maxLocals)
    (d0 : decode cc pc = .ok (.new ik, 3)) (d3 : decode cc (pc + 3) = .ok (.dup, 1)) (d4 : decode cc (pc + 4) = .ok (.ldc is, 2)) (d6 : decode cc (pc + 6) = .ok (.invokespecial ic, 3)) (d9 : decode cc (pc + 9) = .ok (.athrow, 1))
    (hout : ∀ x ∈ c.exceptionTable.toList, covers x (pc + 9) = false)
    (hRframes : names.length + 3 < R.frames) (hRlocals : (rest.map fun v => v.category).sum + (13 * (names.length + 1) + 43) ≤ R.locals) (hRcells : cells + 1 ≤ R.cells) (hRslots : slots + 6 ≤ R.slots) (hlocks : meth.locks = false)
    (hx : ∀ t : State, s.vm.Alike t.vm → H.size ≤ t.heap.size → (∀ q : Nat, q < H.size → t.heap[q]? = H[q]?) → XC cls s t)
    (hf : ∀ z ∈ locs, free z.base) (hc : cells + 1 ≤ mc) (hs : slots + 6 ≤ ms) :
    W p l e R s m args below meth c H locs cells slots (vx_MQ below Qc XC args s mc ms free) (F0 m pc ls rest) := by
  intro T hT X
  have htr : e.platform.stackTraces = false := (show e.platform.stackTraces = l.stackTraces by rw [X.admits.platform]).trans hl
  have Y := vx_rebase X (R' := { frames := R.frames, locals := R.locals, cells := 1, slots := 6 }) (Nat.le_refl _) (Nat.le_refl _) hRcells hRslots
  obtain ⟨s', hA⟩ : ∃ z, z = (T.setVm s.vm).setFrames (.invoking m args :: below) := ⟨_, rfl⟩
  rw [← hA] at Y
  have hvm : s'.vm = s.vm := by rw [hA]; rfl
  have hhp : s'.heap = H := by rw [hA]; exact hT
  have hW0 : s.WarmedH s'.vm := by rw [hvm]; exact State.WarmedH.refl s
  have hat' : ∀ w ∈ vx_atS own ic cls names, w.before args s' = true := fun w hw => vx_ot_at hW0 hvm.symm (hgood w (List.mem_cons_of_mem _ (List.mem_cons_of_mem _ hw))) (hat w hw)
  have hk' : (Cond.classLink own ik cls).before args s' = true := vx_ot_at hW0 hvm.symm (hgood _ List.mem_cons_self) hk
  have hini' : (Cond.initialized cls).before args s' = true := vx_ot_at hW0 hvm.symm (hgood _ (List.mem_cons_of_mem _ List.mem_cons_self)) hini
  have hU' : vx_Zq Bundle.tN "UNASSIGNED_STACK" Bundle.steD A s' s'.heap := by rw [hhp]; exact vx_Zq.moved hW0.alike (hU.kept hS.2.1)
  have hN' : vx_Zq Bundle.tN "SUPPRESSED_SENTINEL" Bundle.listD A s' s'.heap := by rw [hhp]; exact vx_Zq.moved hW0.alike (hN.kept hS.2.1)
  have h : ∀ w ∈ Bundle.ownAtoms own ic cls names, w.before args s' = true := vx_own hat' (vx_isRefq hU'.1) (vx_isRefq hN'.1) hU'.2.word hN'.2.word
  have hown' : s'.vm.findClass own = some m.cls := by rw [hvm]; exact hown
  have hins : (Cond.instantiable cls 6).before args s' = true := h _ (by simp [Bundle.ownAtoms])
  obtain ⟨vm₁, cX, kX, hfX, hkX, -, -, X₁, st1⟩ := Y.newCold hexec (own := own) (C := cls) (index := ik) (n := 6) hown' hk' hins hini'
    (g := F0 m pc ls rest) rfl (by rw [hb]; exact d0) (Nat.le_refl _) (Nat.le_refl _)
  generalize hT1 : (T.setVm vm₁).pushCell { cls := cX, slots := kX.instanceTypes.map defaultValue, vm := .none } = T1 at X₁ st1
  have hcat : (Value.ref T.heap.size).category = 1 := rfl
  have hcellA : T1.heap[T.heap.size]? = some (freshCell cX kX) := by rw [← hT1]; exact State.heap_pushCell_size _ _
  have d3' : decode c.code (pc + 3) = .ok (.dup, 1) := by rw [hb]; exact d3
  have d4' : decode c.code (pc + 4) = .ok (.ldc is, 2) := by rw [hb]; exact d4
  have hstr' : vk_R own is text sa s' := vk_R.warm hW0 hstr
  obtain ⟨U, hsteps, hrun, hend, hW, hsame, ce, hce, hO⟩ := X₁.ctorThrowS hexec htr (own := own) (cls := cls) (names := names) (ic := ic) hown' hcls hnames h (fun x hx => nomatch hx) hfX hkX hcellA (by rw [hhp, hT]; exact Nat.le_refl _) (msg := .ref sa) rfl
    (g := { method := m, pc := pc + 6, locals := ls, stack := .ref sa :: .ref T.heap.size :: .ref T.heap.size :: rest, locked := none }) rfl hsize rfl rfl (rest := rest) rfl
    (by rw [hb]; exact d6) (by rw [hb]; exact d9) hout hRframes (by simp only [List.map_cons, List.sum_cons, hcat]; omega) hlocks
  obtain ⟨f1, f2⟩ := vx_frame hsame
  rw [hhp] at f1 f2
  have hWs : s.WarmedH U.vm := State.WarmedH.trans hW0 hW
  have hcl : s.vm.findClass cls = some ce.cls := by
    have h9 := hO.cls
    rw [hvm] at h9
    exact h9
  have hall : s.sameButNew ({ U with vm := s.vm } : State) locs mc ms := by
    subst hA
    obtain ⟨e1, e2⟩ := hsame
    rw [State.setFrames_setFrames] at e1
    have h2 : (T.setVm s.vm).sameButNew ({ U with vm := s.vm } : State) [] (0 + 1) (0 + 6) := ⟨e1, e2⟩
    have h3 := X.same.trans h2
    rw [List.append_nil] at h3
    exact h3.mono hc hs
  refine ⟨U, ?_, .threw T.heap.size, hrun, hend, Or.inr ⟨T.heap.size, rfl, cls, ce, locs, hx U hWs.alike f1 (fun q hq => f2 q hq (fun z hz => nomatch hz)), hce, hO.vm, hcl, hWs, hall, hf⟩⟩
  refine st1 _ ?_
  show Steps p.tables e below (T1.setTop { method := m, pc := pc + 3, locals := ls, stack := .ref T.heap.size :: rest, locked := none }) _
  jvm_step X₁.here [X₁.here.top, hexec, d3', Value.category]
  exact X₁.ldcString hexec (own := own) (text := text) (index := is) (a := sa) hown' hstr'.1 hstr'.2
    (g := { method := m, pc := pc + 4, locals := ls, stack := .ref T.heap.size :: .ref T.heap.size :: rest, locked := none }) rfl d4' _ hsteps
/-- 'throw new E("text")', the text by a wide index -/
theorem vx_throwSW {cc : ByteArray} {pc : Nat} (hexec : p.tables.exec = Jvm.exec) (hb : c.code = cc) (hl : l.stackTraces = false) {own cls text : String} {names : List String} {ik is ic mc ms sa : Nat} {A : Nat → Prop}
    (hown : s.vm.findClass own = some m.cls) (hcls : Bundle.fit cls = true) (hnames : ∀ n ∈ names, Bundle.fit n = true)
    (hk : (Cond.classLink own ik cls).before args s = true) (hini : (Cond.initialized cls).before args s = true) (hstr : vk_R own is text sa s) (hat : ∀ w ∈ vx_atS own ic cls names, w.before args s = true)
    (hgood : ∀ w ∈ Cond.classLink own ik cls :: Cond.initialized cls :: vx_atS own ic cls names, vx_ot w = true)
    (hU : vx_Zq Bundle.tN "UNASSIGNED_STACK" Bundle.steD A s s.heap) (hN : vx_Zq Bundle.tN "SUPPRESSED_SENTINEL" Bundle.listD A s s.heap) (hS : va_S A s.heap H locs) (hsize : ls.size = c.maxLocals)
    (d0 : decode cc pc = .ok (.new ik, 3)) (d3 : decode cc (pc + 3) = .ok (.dup, 1)) (d4 : decode cc (pc + 4) = .ok (.ldc_w is, 3)) (d7 : decode cc (pc + 7) = .ok (.invokespecial ic, 3)) (d10 : decode cc (pc + 10) = .ok (.athrow, 1))
    (hout : ∀ x ∈ c.exceptionTable.toList, covers x (pc + 10) = false)
    (hRframes : names.length + 3 < R.frames) (hRlocals : (rest.map fun v => v.category).sum + (13 * (names.length + 1) + 43) ≤ R.locals) (hRcells : cells + 1 ≤ R.cells) (hRslots : slots + 6 ≤ R.slots) (hlocks : meth.locks = false)
    (hx : ∀ t : State, s.vm.Alike t.vm → H.size ≤ t.heap.size → (∀ q : Nat, q < H.size → t.heap[q]? = H[q]?) → XC cls s t)
    (hf : ∀ z ∈ locs, free z.base) (hc : cells + 1 ≤ mc) (hs : slots + 6 ≤ ms) :
    W p l e R s m args below meth c H locs cells slots (vx_MQ below Qc XC args s mc ms free) (F0 m pc ls rest) := by
  intro T hT X
  have htr : e.platform.stackTraces = false := (show e.platform.stackTraces = l.stackTraces by rw [X.admits.platform]).trans hl
  have Y := vx_rebase X (R' := { frames := R.frames, locals := R.locals, cells := 1, slots := 6 }) (Nat.le_refl _) (Nat.le_refl _) hRcells hRslots
  obtain ⟨s', hA⟩ : ∃ z, z = (T.setVm s.vm).setFrames (.invoking m args :: below) := ⟨_, rfl⟩
  rw [← hA] at Y
  have hvm : s'.vm = s.vm := by rw [hA]; rfl
  have hhp : s'.heap = H := by rw [hA]; exact hT
  have hW0 : s.WarmedH s'.vm := by rw [hvm]; exact State.WarmedH.refl s
  have hat' : ∀ w ∈ vx_atS own ic cls names, w.before args s' = true := fun w hw => vx_ot_at hW0 hvm.symm (hgood w (List.mem_cons_of_mem _ (List.mem_cons_of_mem _ hw))) (hat w hw)
  have hk' : (Cond.classLink own ik cls).before args s' = true := vx_ot_at hW0 hvm.symm (hgood _ List.mem_cons_self) hk
  have hini' : (Cond.initialized cls).before args s' = true := vx_ot_at hW0 hvm.symm (hgood _ (List.mem_cons_of_mem _ List.mem_cons_self)) hini
  have hU' : vx_Zq Bundle.tN "UNASSIGNED_STACK" Bundle.steD A s' s'.heap := by rw [hhp]; exact vx_Zq.moved hW0.alike (hU.kept hS.2.1)
  have hN' : vx_Zq Bundle.tN "SUPPRESSED_SENTINEL" Bundle.listD A s' s'.heap := by rw [hhp]; exact vx_Zq.moved hW0.alike (hN.kept hS.2.1)
  have h : ∀ w ∈ Bundle.ownAtoms own ic cls names, w.before args s' = true := vx_own hat' (vx_isRefq hU'.1) (vx_isRefq hN'.1) hU'.2.word hN'.2.word
  have hown' : s'.vm.findClass own = some m.cls := by rw [hvm]; exact hown
  have hins : (Cond.instantiable cls 6).before args s' = true := h _ (by simp [Bundle.ownAtoms])
  obtain ⟨vm₁, cX, kX, hfX, hkX, -, -, X₁, st1⟩ := Y.newCold hexec (own := own) (C := cls) (index := ik) (n := 6) hown' hk' hins hini'
    (g := F0 m pc ls rest) rfl (by rw [hb]; exact d0) (Nat.le_refl _) (Nat.le_refl _)
  generalize hT1 : (T.setVm vm₁).pushCell { cls := cX, slots := kX.instanceTypes.map defaultValue, vm := .none } = T1 at X₁ st1
  have hcat : (Value.ref T.heap.size).category = 1 := rfl
  have hcellA : T1.heap[T.heap.size]? = some (freshCell cX kX) := by rw [← hT1]; exact State.heap_pushCell_size _ _
  have d3' : decode c.code (pc + 3) = .ok (.dup, 1) := by rw [hb]; exact d3
  have d4' : decode c.code (pc + 4) = .ok (.ldc_w is, 3) := by rw [hb]; exact d4
  have hstr' : vk_R own is text sa s' := vk_R.warm hW0 hstr
  obtain ⟨U, hsteps, hrun, hend, hW, hsame, ce, hce, hO⟩ := X₁.ctorThrowS hexec htr (own := own) (cls := cls) (names := names) (ic := ic) hown' hcls hnames h (fun x hx => nomatch hx) hfX hkX hcellA (by rw [hhp, hT]; exact Nat.le_refl _) (msg := .ref sa) rfl
    (g := { method := m, pc := pc + 7, locals := ls, stack := .ref sa :: .ref T.heap.size :: .ref T.heap.size :: rest, locked := none }) rfl hsize rfl rfl (rest := rest) rfl
    (by rw [hb]; exact d7) (by rw [hb]; exact d10) hout hRframes (by simp only [List.map_cons, List.sum_cons, hcat]; omega) hlocks
  obtain ⟨f1, f2⟩ := vx_frame hsame
  rw [hhp] at f1 f2
  have hWs : s.WarmedH U.vm := State.WarmedH.trans hW0 hW
  have hcl : s.vm.findClass cls = some ce.cls := by
    have h9 := hO.cls
    rw [hvm] at h9
    exact h9
  have hall : s.sameButNew ({ U with vm := s.vm } : State) locs mc ms := by
    subst hA
    obtain ⟨e1, e2⟩ := hsame
    rw [State.setFrames_setFrames] at e1
    have h2 : (T.setVm s.vm).sameButNew ({ U with vm := s.vm } : State) [] (0 + 1) (0 + 6) := ⟨e1, e2⟩
    have h3 := X.same.trans h2
    rw [List.append_nil] at h3
    exact h3.mono hc hs
  refine ⟨U, ?_, .threw T.heap.size, hrun, hend, Or.inr ⟨T.heap.size, rfl, cls, ce, locs, hx U hWs.alike f1 (fun q hq => f2 q hq (fun z hz => nomatch hz)), hce, hO.vm, hcl, hWs, hall, hf⟩⟩
  refine st1 _ ?_
  show Steps p.tables e below (T1.setTop { method := m, pc := pc + 3, locals := ls, stack := .ref T.heap.size :: rest, locked := none }) _
  jvm_step X₁.here [X₁.here.top, hexec, d3', Value.category]
  exact X₁.ldcStringW hexec (own := own) (text := text) (index := is) (a := sa) hown' hstr'.1 hstr'.2
    (g := { method := m, pc := pc + 4, locals := ls, stack := .ref T.heap.size :: .ref T.heap.size :: rest, locked := none }) rfl d4' _ hsteps
end Ends
section Bodies
variable {l : Launch}
theorem vx_ofW {y : MethodName} {ws ws' : List Cond} {rm : Room} {Pc : Array Value → State → Prop} {Qc : Array Value → State → Outcome → State → Prop} {XC : String → State → State → Prop} {mc ms : Nat} {free : Addr → Prop} {cc : ByteArray} {maxL : Nat} {ret : Option FieldType}
    (hy : plainName y.cls = true) (hw : ws = Cond.code y cc maxL ret :: ws')
    (body : ∀ p e s m args below meth c s₁, BodyLoose p l y (headSpec ws rm) cc maxL ret e s m args below meth c s₁ → c.maxLocals = maxL → (∀ x ∈ c.exceptionTable.toList, False) → Pc args s →
      W p l e (headSpec ws rm).room s m args below meth c s.heap [] 0 0 (vx_MQ below Qc XC args s mc ms free) (entryFrame m args maxL)) : vx_Met l y ws rm Pc Qc XC mc ms free := by
  refine MetFree.of_bodyS (code := cc) (maxLocals := maxL) (ret := ret) hy ?_ ?_
  · intro args s m h hn
    obtain ⟨meth, c, h1, h2, h3, h4, h5, h6, -, -⟩ := Cond.code_spec hn (atoms_spec (ws := ws) h _ (by rw [hw]; exact List.mem_cons_self))
    exact ⟨meth, c, h1, h2, h3, h4, h5, h6⟩
  · intro p e s m args below meth c s₁ B hml hP _
    have hh0 : s₁.heap = s.heap := by rw [B.state]; rfl
    have ht : ∀ x ∈ c.exceptionTable.toList, False := by
      obtain ⟨meth9, c9, h1, h2, -, -, -, -, h7, -⟩ := Cond.code_spec B.named (atoms_spec (ws := ws) B.pre _ (by rw [hw]; exact List.mem_cons_self))
      cases Option.some.inj (h1.symm.trans B.method)
      cases Option.some.inj (h2.symm.trans (Stand.of_body B).code)
      intro x hx
      rw [Array.isEmpty_iff.mp h7] at hx
      cases hx
    obtain ⟨t, a1, o, b1, b2, b3⟩ := body p e s m args below meth c s₁ B hml ht hP s₁ hh0 (Stand.of_body B)
    exact ⟨t, o, a1, b1, b2, b3⟩
/-- the table of a body with handlers -/
theorem vx_table {p : Program} {x y : MethodName} {S : Spec} {cc bytes : ByteArray} {maxL maxL' : Nat} {ret ret' : Option FieldType} {e : Env} {s s₁ : State} {m : MethodId} {args : Array Value} {below : List Frame} {meth : Method} {c : Code} {hh : List (Nat × Nat × Nat × Nat)}
    (B : BodyLoose p l y S cc maxL ret e s m args below meth c s₁) (h : (Cond.codeWith y bytes maxL' ret' hh).before args s = true) : c.exceptionTable.toList = tableOf hh := by
  obtain ⟨m9, meth9, c9, hn9, h1, h2, -, -, h6, -⟩ := Cond.codeWith_spec h
  cases Option.some.inj (hn9.symm.trans B.named)
  cases Option.some.inj (h1.symm.trans B.method)
  cases Option.some.inj (h2.symm.trans (Stand.of_body B).code)
  rw [← h6, table_eq]
end Bodies
end VXA
/-! ===== END ===== -/
/-! ===== BEGIN a static call of a method with an exception table ===== -/
section VXS
variable {p : Program} {l : Launch} {e : Env} {R : Room} {s : State} {m : MethodId} {args : Array Value} {below : List Frame} {meth : Method} {c : Code} {T : State} {H : Heap} {locs : List Loc} {cells slots : Nat}
abbrev vx_CSW (R : Room) (s : State) (args : Array Value) (own : String) (index : Nat) (y : MethodName) (bytes : ByteArray) (maxL : Nat) (ret : Option FieldType) (hh : List (Nat × Nat × Nat × Nat)) (ws : List Cond) (rm : Room) (mc ms n : Nat) : Prop :=
  (rm.cells = mc ∧ rm.slots = ms ∧ rm.frames + 1 ≤ R.frames ∧ 8 + (maxL + 11) + rm.locals ≤ R.locals ∧ (∀ w ∈ ws, ∀ (a' : Array Value) (U : State), s.WarmedH U.vm → w.before a' U = true) ∧ Cond.codeWith y bytes maxL ret hh ∈ ws) ∧
  (Cond.codeWith y bytes maxL ret hh).before args s = true ∧ (Cond.initialized y.cls).before args s = true ∧ (y.cls ≠ "java/lang/invoke/MethodHandle" ∧ y.cls ≠ "java/lang/invoke/VarHandle") ∧
  (∀ sig, parseMethodDescriptor y.desc = some sig → n = sig.parameters.length) ∧ (Cond.methodLink own index y).before args s = true ∧ (Cond.static y).before args s = true
theorem vx_cwSW {own : String} {index maxL mc ms : Nat} {y : MethodName} {bytes : ByteArray} {ret : Option FieldType} {hh : List (Nat × Nat × Nat × Nat)} {Ts ws ws' : List Cond} {rm : Room} (n : Nat) (ht : ∀ w ∈ Ts, w.before args s = true) (hT : GoodIn Ts (va_wsS own index y ws)) (hw : ws = Cond.codeWith y bytes maxL ret hh :: ws') (hrc : rm.cells = mc) (hrs : rm.slots = ms)
    (hd : y.cls ≠ "java/lang/invoke/MethodHandle" ∧ y.cls ≠ "java/lang/invoke/VarHandle" ∧ (parseMethodDescriptor y.desc).map (fun d => d.parameters.length) = some n) (hR : rm.frames + 1 ≤ R.frames ∧ 8 + (maxL + 11) + rm.locals ≤ R.locals) :
    vx_CSW R s args own index y bytes maxL ret hh ws rm mc ms n := by
  have ok : ∀ w ∈ va_wsS own index y ws, w.before args s = true := fun w h => ht w (hT w h).1
  have hG : GoodIn Ts ws := fun w h => hT w (by unfold va_wsS; exact List.mem_append_right _ h)
  have hc : Cond.codeWith y bytes maxL ret hh ∈ ws := by rw [hw]; exact List.mem_cons_self
  refine ⟨⟨hrc, hrs, hR.1, hR.2, pay_in ht hG, hc⟩, ht _ (hG _ hc).1, ok _ (by simp [va_wsS]), ⟨hd.1, hd.2.1⟩, fun sig h => ?_, ok _ (by simp [va_wsS]), ok _ (by simp [va_wsS])⟩
  have h2 := hd.2.2
  rw [h] at h2
  exact (Option.some.inj h2).symm
theorem vx_callSW (X : Stand p l e R s m args below meth c T locs cells slots) (hexec : p.tables.exec = Jvm.exec) {own : String} {index : Nat} {y : MethodName} {bytes : ByteArray} {maxL : Nat} {ret : Option FieldType} {hh : List (Nat × Nat × Nat × Nat)}
    (hown : s.vm.findClass own = some m.cls) (hlink : (Cond.methodLink own index y).before args s = true) (hstat : (Cond.static y).before args s = true) (hinit : (Cond.initialized y.cls).before args s = true)
    (hcode : (Cond.codeWith y bytes maxL ret hh).before args s = true) (hy : y.cls ≠ "java/lang/invoke/MethodHandle" ∧ y.cls ≠ "java/lang/invoke/VarHandle")
    {W9 : Nat} {Pre : Pt → Array Value → Prop} {Post : Pt → Array Value → Option Value → Pt → Prop} (hK : Back l R p e below s args y 3 W9 Pre Post)
    {g : JFrame} (hg : g.method = m) (hsize : g.locals.size = c.maxLocals) {argsL rest : List Value} (hlen : ∀ sig, parseMethodDescriptor y.desc = some sig → argsL.length = sig.parameters.length)
    (hstack : g.stack = argsL.reverse ++ rest) (hW : 2 * g.monitorRoom + (rest.map fun v => v.category).sum ≤ W9) (hdg : decode c.code g.pc = .ok (.invokestatic index, 3))
    (hpre : ∀ vm₁, s.WarmedH vm₁ → Pre ⟨T.setVm vm₁, locs, cells, slots⟩ argsL.toArray) :
    ∃ (v : Option Value) (vm₁ : Vm) (B : Pt), s.WarmedH vm₁ ∧ Stand p l e R s m args below meth c B.U B.locs B.cells B.slots ∧ Post ⟨T.setVm vm₁, locs, cells, slots⟩ argsL.toArray v B ∧
      ∀ target, Steps p.tables e below (B.U.setTop { g with pc := g.pc + 3, stack := v.toList ++ rest }) target → Steps p.tables e below (T.setTop g) target := by
  obtain ⟨mk, methM, cM, hnamed, hmethM, -, -, -, -, -, -, hsigM⟩ := Cond.codeWith_spec hcode
  have hstatic : methM.isStatic = true := Cond.static_spec hnamed hmethM hstat
  obtain ⟨kP, hkP, -⟩ := className_of_methodNamed hnamed
  have hinitP : kP.init = .initialized := Cond.initialized_spec (findClass_of_methodNamed hnamed) hkP hinit
  obtain ⟨vm₁, X₁, hstep₁⟩ := X.invokestatic hexec hown hlink hnamed hmethM hstatic hkP hinitP hy (g := g) hg (argsL := argsL) (rest := rest) (hlen _ hsigM) hstack hdg
  obtain ⟨v, B, X', hpost, hsteps⟩ := hK m meth c ⟨T.setVm vm₁, locs, cells, slots⟩ { g with stack := rest } (.invokestatic index) mk argsL.toArray X₁ hg hsize hdg hW (X₁.named hnamed) (hpre vm₁ X₁.warmed)
  exact ⟨v, vm₁, B, X₁.warmed, X', hpost, fun target h => hstep₁ _ fun acts => by rw [doInvoke_state]; exact hsteps.trans h⟩
theorem vx_runSW {y : MethodName} {bytes cc : ByteArray} {maxL nL mc ms n index : Nat} {ret : Option FieldType} {hh : List (Nat × Nat × Nat × Nat)} {ws : List Cond} {rm : Room} {Pc : Array Value → State → Prop} {Qc : Array Value → State → Outcome → State → Prop} {free : Addr → Prop} {Ts : List Cond} {own : String} {As rest : List Value} {g : JFrame}
    (S : CallFix p m c cc nL s args Ts own) (hM : Met l y ws rm Pc Qc mc ms free) (cw : vx_CSW R s args own index y bytes maxL ret hh ws rm mc ms n) (hp : PreS s H Pc As)
    (hg : g.method = m) (hn : As.length = n) (hsize : g.locals.size = nL) (hstack : g.stack = As.reverse ++ rest) (hW : 2 * g.monitorRoom + (rest.map fun v => v.category).sum ≤ 8) (hdg : decode cc g.pc = .ok (.invokestatic index, 3)) (hf : cells + mc ≤ R.cells ∧ slots + ms ≤ R.slots) :
    va_Run p l e R s m args below meth c H locs cells slots mc ms g rest (Qc As.toArray) (free) := by
  obtain ⟨⟨hrc, hrs, hfr, hlo, hws, hcw⟩, hcode, hini, hy, hlen, hl, hstt⟩ := cw
  have hK : Back l R p e below s args y 3 8 (PreOf R mc ms Pc) (PostOf Qc mc ms free) := va_backW (hh := hh) (bytes := bytes) (maxL := maxL) (ret := ret) hM hp.1 hrc hrs hfr hlo hws hcw (fun a' U hW => word_at hW (Or.inl (by first | rfl | simp [Cond.onTables, Cond.keeps, Cond.steady])) hini)
  obtain ⟨hx, hb, hml, ho, -⟩ := S
  intro T hT X
  obtain ⟨v, vm₁, ⟨U', l2, c2, s2⟩, hW₁, X', ⟨g', mk, t, L, e1, e2, hq, h1, hL, h2, h3⟩, st⟩ := vx_callSW X hx (hh := hh) (bytes := bytes) (maxL := maxL) (ret := ret) ho hl hstt hini hcode hy hK hg (hsize.trans hml.symm) (argsL := As) (rest := rest) (fun sig h => hn.trans (hlen sig h)) hstack hW (by rw [hb]; exact hdg)
    (fun vm₁ hW₁ => ⟨hf.1, hf.2, hp.2 (T.setVm vm₁) hT hW₁⟩)
  dsimp only [Pt.U, Pt.locs, Pt.cells, Pt.slots] at X' e1 e2 h1 h2 h3 st
  subst h1; subst h2; subst h3
  exact ⟨v, (T.setVm vm₁).calling g' mk As.toArray, t, U', L, hT, X', hL, e1, e2, hq, st⟩
/-- a thing of a world lies in the heap -/
theorem vx_lt {D : va_G} {cl : List vw_C} {ws : va_W} {H1 : Heap} (h : va_P D cl ws H1) {k : Nat} {q : Nat × va_E} (hk : ws[k]? = some q) : q.1 < H1.size := (h k q hk).lt
end VXS
/-! ===== END ===== -/
/-! ===== BEGIN methods with a table of their own: called by a name, returning or throwing ===== -/
section VXH
/-! vx_backW, vx_callVX, vx_callSX, vx_callVW, vx_runVW, vx_runVX, vx_runSX, vx_ofWH follow the same proofs as their sisters above (Free/Laws.lean, Shelf42/LK1.lean); vx_outP calls Shelf42/NT130.lean (outThrough). -/
section
variable {l : Launch} {R : Room} {p : Program} {e : Env} {below : List Frame} {s : State} {sargs : Array Value} {y : MethodName} {len W9 : Nat}
theorem vx_backW {ws : List Cond} {rm : Room} {Pc : Array Value → State → Prop} {Qc : Array Value → State → Outcome → State → Prop} {XC : String → State → State → Prop} {mc ms : Nat} {free : Addr → Prop} {bytes : ByteArray} {maxL : Nat} {ret : Option FieldType} {hh : List (Nat × Nat × Nat × Nat)}
    (hM : vx_Met l y ws rm Pc Qc XC mc ms free) (hblind : FrameBlind Pc) (hrc : rm.cells = mc) (hrs : rm.slots = ms)
    (hframes : rm.frames + 1 ≤ R.frames) (hlocals : W9 + (maxL + 11) + rm.locals ≤ R.locals)
    (hws : ∀ w ∈ ws, ∀ a' U, s.WarmedH U.vm → w.before a' U = true) (hcode : Cond.codeWith y bytes maxL ret hh ∈ ws) (hinit : ∀ a' U, s.WarmedH U.vm → (Cond.initialized y.cls).before a' U = true) :
    vx_Back l R p e below s sargs y len W9 (PreOf R mc ms Pc) (PostOf Qc mc ms free) (vx_Post XC mc ms free) := by
  intro m meth c A g ig mk a X hg hsize hdg hW hn hp
  have h1 : (headSpec ws rm).pre.before a A.U = true := atoms_intro fun w hw => hws w hw _ _ X.warmed
  have h2 : (Cond.codeWith y bytes maxL ret hh).before a A.U = true := hws _ hcode _ _ X.warmed
  have h3 : (Cond.initialized y.cls).before a A.U = true := hinit _ _ X.warmed
  have h4 : A.cells + (headSpec ws rm).room.cells ≤ R.cells := by rw [show (headSpec ws rm).room.cells = mc from hrc]; exact hp.1
  have h5 : A.slots + (headSpec ws rm).room.slots ≤ R.slots := by rw [show (headSpec ws rm).room.slots = ms from hrs]; exact hp.2.1
  have hPc : Pc a (A.U.calling g mk a) := hblind _ _ _ _ hp.2.2
  obtain ⟨U, Ls, c0, s0⟩ := A
  dsimp only [Pt.U, Pt.locs, Pt.cells, Pt.slots] at h1 h2 h3 h4 h5 X hn hPc ⊢
  obtain ⟨m9, methY, cY, hn9, hmY, hcY, -, hlY, -⟩ := Cond.codeWith_spec h2
  cases Option.some.inj (hn9.symm.trans hn)
  obtain ⟨kY, hkY, -⟩ := className_of_methodNamed hn
  have hinitY : kY.init = .initialized := Cond.initialized_spec (findClass_of_methodNamed hn) hkY h3
  have h : At U g.method c below := by rw [hg]; exact X.here
  have hlocals9 : W9 + (maxL + 11) + (headSpec ws rm).room.locals ≤ R.locals := hlocals
  have happ : (headSpec ws rm).appliesLoose y e.platform (U.calling g mk a) = true :=
    Spec.appliesLoose_calling (g := g) h hdg hn hkY hinitY
      (X.room_calling (g := g) (R' := (headSpec ws rm).room) hsize hmY hcY hframes (by rw [hlY]; omega) h4 h5) h1
  obtain ⟨mid, hmid⟩ := h.above
  have hfr : (U.setTop g).frames = (.java g :: mid) ++ below := by rw [State.frames_setTop' g h.top, hmid]; rfl
  obtain ⟨o, s₂, hsteps, -, hend, hq⟩ := Steps.callFree hM p X.admits X.cas X.clock (acts := []) hfr happ hPc trivial
  have hq' : vx_Q Qc XC mc ms free a (U.calling g mk a) o s₂ := hq
  rw [State.frames_setTop' g h.top] at hend
  obtain ⟨g₀, hg0⟩ := Option.isSome_iff_exists.mp h.top
  obtain ⟨r, hr⟩ := State.topJava?_eq_some.mp hg0
  have hr' : (({ U with heap := s₂.heap, slotsUsed := s₂.slotsUsed } : State).setVm s₂.vm).frames = .java g₀ :: r := hr
  rcases hq' with ⟨hqc, L, hfe, hL⟩ | ⟨q, rfl, E, ce, L, hx, hce, hcv, hcl, hW₂, hsm, hL⟩
  · obtain ⟨⟨v, rfl⟩, hW₂, e2, q2, q3, q4, q5, q6⟩ := id hfe
    have e3 : s₂ = ({ (U.calling g mk a).setFrames s₂.frames with heap := s₂.heap, slotsUsed := s₂.slotsUsed } : State).setVm s₂.vm := by
      have : s₂ = ({ s₂ with vm := (U.calling g mk a).vm } : State).setVm s₂.vm := rfl
      rw [e2] at this
      exact this
    obtain ⟨c₂, i₂, len₂, hc₂, hd₂, hf₂⟩ := hend
    have hW' : U.WarmedH s₂.vm := hW₂
    have hcc : c₂ = c := by
      have h1 : s₂.code? g.method = U.code? g.method := by
        rw [State.code?_eq, State.code?_eq, hW'.alike.method?]
      exact Option.some.inj (hc₂.symm.trans (h1.trans h.code))
    subst hcc
    have hlen : len₂ = len := by rw [hdg] at hd₂; cases hd₂; rfl
    subst hlen
    have hs₂ : s₂ = (({ U with heap := s₂.heap, slotsUsed := s₂.slotsUsed } : State).setVm s₂.vm).setTop { g with pc := g.pc + len₂, stack := v.toList ++ g.stack } := by
      refine e3.trans ?_
      rw [hf₂, State.calling_eq h.top, State.setFrames_setFrames, State.setTop_of_frames _ hr', hr]
      rfl
    have hsame : U.sameButNew ({ U with heap := s₂.heap, slotsUsed := s₂.slotsUsed } : State) L mc ms := by
      refine ⟨?_, q2, q3, q4, q5, q6⟩
      obtain ⟨t, ht, -⟩ := State.frames_cons hr
      show ({ U with heap := s₂.heap, slotsUsed := s₂.slotsUsed } : State) = { U.setFrames U.frames with heap := s₂.heap, slotsUsed := s₂.slotsUsed }
      rw [State.setFrames_self ht]
    subst hg
    refine Or.inl ⟨v, ⟨(({ U with heap := s₂.heap, slotsUsed := s₂.slotsUsed } : State).setVm s₂.vm), Ls ++ L, c0 + mc, s0 + ms⟩,
      ⟨X.admits, X.cas, X.clock, X.frames, X.room, X.hears, X.method, X.code, (X.here.setHeapUsed s₂.heap s₂.slotsUsed).setVm hW'.alike, X.tail, State.WarmedH.trans X.warmed hW', X.limits, X.bytes, X.same.trans (hsame.setVm s.vm)⟩,
      ⟨g, mk, s₂, L, rfl, rfl, hqc, rfl, hL, rfl, rfl⟩, ?_⟩
    show Steps p.tables e below _ ((({ U with heap := s₂.heap, slotsUsed := s₂.slotsUsed } : State).setVm s₂.vm).setTop { g with pc := g.pc + len₂, stack := v.toList ++ g.stack })
    rw [← hs₂]
    exact hsteps
  · obtain ⟨e2, q2, q3, q4, q5, q6⟩ := id hsm
    have e3 : s₂ = ({ (U.calling g mk a).setFrames s₂.frames with heap := s₂.heap, slotsUsed := s₂.slotsUsed } : State).setVm s₂.vm := by
      have : s₂ = ({ s₂ with vm := (U.calling g mk a).vm } : State).setVm s₂.vm := rfl
      rw [e2] at this
      exact this
    have hf₂ : s₂.frames = .throwing q :: .java g :: U.frames.tail := hend
    have hW' : U.WarmedH s₂.vm := hW₂
    have hs₂ : s₂ = ((({ U with heap := s₂.heap, slotsUsed := s₂.slotsUsed } : State).setVm s₂.vm).setTop g).pushFrame (.throwing q) := by
      refine e3.trans ?_
      rw [hf₂, State.calling_eq h.top, State.setFrames_setFrames, State.pushFrame, State.frames_setTop _ hr', State.setTop_of_frames _ hr', State.setFrames_setFrames, hr]
      rfl
    have hsame : U.sameButNew ({ U with heap := s₂.heap, slotsUsed := s₂.slotsUsed } : State) L mc ms := by
      refine ⟨?_, q2, q3, q4, q5, q6⟩
      obtain ⟨t, ht, -⟩ := State.frames_cons hr
      show ({ U with heap := s₂.heap, slotsUsed := s₂.slotsUsed } : State) = { U.setFrames U.frames with heap := s₂.heap, slotsUsed := s₂.slotsUsed }
      rw [State.setFrames_self ht]
    subst hg
    refine Or.inr ⟨q, ⟨(({ U with heap := s₂.heap, slotsUsed := s₂.slotsUsed } : State).setVm s₂.vm), Ls ++ L, c0 + mc, s0 + ms⟩,
      ⟨X.admits, X.cas, X.clock, X.frames, X.room, X.hears, X.method, X.code, (X.here.setHeapUsed s₂.heap s₂.slotsUsed).setVm hW'.alike, X.tail, State.WarmedH.trans X.warmed hW', X.limits, X.bytes, X.same.trans (hsame.setVm s.vm)⟩,
      ⟨g, mk, s₂, L, E, ce, rfl, rfl, hx, hce, hcv, hcl, rfl, hL, rfl, rfl⟩, ?_⟩
    show Steps p.tables e below _ (((({ U with heap := s₂.heap, slotsUsed := s₂.slotsUsed } : State).setVm s₂.vm).setTop g).pushFrame (.throwing q))
    rw [← hs₂]
    exact hsteps
end
variable {p : Program} {l : Launch} {e : Env} {R : Room} {s : State} {m : MethodId} {args : Array Value} {below : List Frame} {meth : Method} {c : Code} {T : State} {H : Heap} {locs : List Loc} {cells slots : Nat}
theorem vx_callVX (X : Stand p l e R s m args below meth c T locs cells slots) (hexec : p.tables.exec = Jvm.exec) {own C : String} {index : Nat} {y : MethodName} {bytes : ByteArray} {maxL : Nat} {ret : Option FieldType} {hh : List (Nat × Nat × Nat × Nat)}
    (hown : s.vm.findClass own = some m.cls) (hlink : (Cond.methodLink own index y).before args s = true) (hinst : (Cond.instanceMethod y).before args s = true) (hsel : (Cond.selects C y y).before args s = true)
    (hcode : (Cond.codeWith y bytes maxL ret hh).before args s = true) (hy : y.cls ≠ "java/lang/invoke/MethodHandle" ∧ y.cls ≠ "java/lang/invoke/VarHandle")
    {W9 : Nat} {Pre : Pt → Array Value → Prop} {Post : Pt → Array Value → Option Value → Pt → Prop} {PostX : Pt → Array Value → Addr → Pt → Prop} (hK : vx_Back l R p e below s args y 3 W9 Pre Post PostX)
    {b : Addr} {cellB : Cell} (hcell : T.heap[b]? = some cellB) (hobj : cellB.vm.isStatics = false) (hcls : s.vm.findClass C = some cellB.cls)
    {g : JFrame} (hg : g.method = m) (hsize : g.locals.size = c.maxLocals) {argsL rest : List Value} (hlen : ∀ sig, parseMethodDescriptor y.desc = some sig → argsL.length = sig.parameters.length)
    (hstack : g.stack = argsL.reverse ++ .ref b :: rest) (hW : 2 * g.monitorRoom + (rest.map fun v => v.category).sum ≤ W9) (hdg : decode c.code g.pc = .ok (.invokevirtual index, 3))
    (hpre : ∀ vm₁, s.WarmedH vm₁ → Pre ⟨T.setVm vm₁, locs, cells, slots⟩ (Value.ref b :: argsL).toArray) :
    (∃ (v : Option Value) (vm₁ : Vm) (B : Pt), s.WarmedH vm₁ ∧ Stand p l e R s m args below meth c B.U B.locs B.cells B.slots ∧ Post ⟨T.setVm vm₁, locs, cells, slots⟩ (Value.ref b :: argsL).toArray v B ∧
      ∀ target, Steps p.tables e below (B.U.setTop { g with pc := g.pc + 3, stack := v.toList ++ rest }) target → Steps p.tables e below (T.setTop g) target) ∨
    (∃ (q : Addr) (vm₁ : Vm) (B : Pt), s.WarmedH vm₁ ∧ Stand p l e R s m args below meth c B.U B.locs B.cells B.slots ∧ PostX ⟨T.setVm vm₁, locs, cells, slots⟩ (Value.ref b :: argsL).toArray q B ∧
      Steps p.tables e below (T.setTop g) ((B.U.setTop { g with stack := rest }).pushFrame (.throwing q))) := by
  obtain ⟨mk, methM, hnamed, hmethM, hstM, habM⟩ := Cond.instanceMethod_spec hinst
  obtain ⟨m8, methM', cM, hn8, hmethM', -, -, -, -, -, -, hsigM⟩ := Cond.codeWith_spec hcode
  cases Option.some.inj (hn8.symm.trans hnamed)
  cases hmethM.symm.trans hmethM'
  obtain ⟨c2, r2, m2, q1, q2, q3, q4, kP, hkP, hkPi⟩ := Cond.selects_spec hsel
  cases hcls.symm.trans q1
  cases (State.methodFound?_of_named hnamed hy).symm.trans q2
  cases hnamed.symm.trans q3
  have hselP : selectMethod e.platform s.vm cellB.cls mk = .method mk := by rw [Launch.admits_selectMethod X.admits]; exact q4
  obtain ⟨vm₁, X₁, hstep₁⟩ := X.invokevirtual hexec hown hlink hnamed hmethM hstM hkP hkPi hy (a := b) (cell := cellB) hcell
    (fun z h => by rw [h] at hobj; cases hobj) hselP hmethM habM hkP hkPi (g := g) hg (argsL := argsL) (rest := rest) (hlen _ hsigM) hstack hdg
  rcases hK m meth c ⟨T.setVm vm₁, locs, cells, slots⟩ { g with stack := rest } (.invokevirtual index) mk (Value.ref b :: argsL).toArray X₁ hg hsize hdg hW (X₁.named hnamed) (hpre vm₁ X₁.warmed) with ⟨v, B, X', hpost, hsteps⟩ | ⟨q, B, X', hpost, hsteps⟩
  · exact Or.inl ⟨v, vm₁, B, X₁.warmed, X', hpost, fun target h => hstep₁ _ fun acts => by rw [doInvoke_state]; exact hsteps.trans h⟩
  · exact Or.inr ⟨q, vm₁, B, X₁.warmed, X', hpost, hstep₁ _ fun acts => by rw [doInvoke_state]; exact hsteps⟩
theorem vx_callSX (X : Stand p l e R s m args below meth c T locs cells slots) (hexec : p.tables.exec = Jvm.exec) {own : String} {index : Nat} {y : MethodName} {bytes : ByteArray} {maxL : Nat} {ret : Option FieldType} {hh : List (Nat × Nat × Nat × Nat)}
    (hown : s.vm.findClass own = some m.cls) (hlink : (Cond.methodLink own index y).before args s = true) (hstat : (Cond.static y).before args s = true) (hinit : (Cond.initialized y.cls).before args s = true)
    (hcode : (Cond.codeWith y bytes maxL ret hh).before args s = true) (hy : y.cls ≠ "java/lang/invoke/MethodHandle" ∧ y.cls ≠ "java/lang/invoke/VarHandle")
    {W9 : Nat} {Pre : Pt → Array Value → Prop} {Post : Pt → Array Value → Option Value → Pt → Prop} {PostX : Pt → Array Value → Addr → Pt → Prop} (hK : vx_Back l R p e below s args y 3 W9 Pre Post PostX)
    {g : JFrame} (hg : g.method = m) (hsize : g.locals.size = c.maxLocals) {argsL rest : List Value} (hlen : ∀ sig, parseMethodDescriptor y.desc = some sig → argsL.length = sig.parameters.length)
    (hstack : g.stack = argsL.reverse ++ rest) (hW : 2 * g.monitorRoom + (rest.map fun v => v.category).sum ≤ W9) (hdg : decode c.code g.pc = .ok (.invokestatic index, 3))
    (hpre : ∀ vm₁, s.WarmedH vm₁ → Pre ⟨T.setVm vm₁, locs, cells, slots⟩ argsL.toArray) :
    (∃ (v : Option Value) (vm₁ : Vm) (B : Pt), s.WarmedH vm₁ ∧ Stand p l e R s m args below meth c B.U B.locs B.cells B.slots ∧ Post ⟨T.setVm vm₁, locs, cells, slots⟩ argsL.toArray v B ∧
      ∀ target, Steps p.tables e below (B.U.setTop { g with pc := g.pc + 3, stack := v.toList ++ rest }) target → Steps p.tables e below (T.setTop g) target) ∨
    (∃ (q : Addr) (vm₁ : Vm) (B : Pt), s.WarmedH vm₁ ∧ Stand p l e R s m args below meth c B.U B.locs B.cells B.slots ∧ PostX ⟨T.setVm vm₁, locs, cells, slots⟩ argsL.toArray q B ∧
      Steps p.tables e below (T.setTop g) ((B.U.setTop { g with stack := rest }).pushFrame (.throwing q))) := by
  obtain ⟨mk, methM, cM, hnamed, hmethM, -, -, -, -, -, -, hsigM⟩ := Cond.codeWith_spec hcode
  have hstatic : methM.isStatic = true := Cond.static_spec hnamed hmethM hstat
  obtain ⟨kP, hkP, -⟩ := className_of_methodNamed hnamed
  have hinitP : kP.init = .initialized := Cond.initialized_spec (findClass_of_methodNamed hnamed) hkP hinit
  obtain ⟨vm₁, X₁, hstep₁⟩ := X.invokestatic hexec hown hlink hnamed hmethM hstatic hkP hinitP hy (g := g) hg (argsL := argsL) (rest := rest) (hlen _ hsigM) hstack hdg
  rcases hK m meth c ⟨T.setVm vm₁, locs, cells, slots⟩ { g with stack := rest } (.invokestatic index) mk argsL.toArray X₁ hg hsize hdg hW (X₁.named hnamed) (hpre vm₁ X₁.warmed) with ⟨v, B, X', hpost, hsteps⟩ | ⟨q, B, X', hpost, hsteps⟩
  · exact Or.inl ⟨v, vm₁, B, X₁.warmed, X', hpost, fun target h => hstep₁ _ fun acts => by rw [doInvoke_state]; exact hsteps.trans h⟩
  · exact Or.inr ⟨q, vm₁, B, X₁.warmed, X', hpost, hstep₁ _ fun acts => by rw [doInvoke_state]; exact hsteps⟩
theorem vx_callVW (X : Stand p l e R s m args below meth c T locs cells slots) (hexec : p.tables.exec = Jvm.exec) {own C : String} {index : Nat} {y : MethodName} {bytes : ByteArray} {maxL : Nat} {ret : Option FieldType} {hh : List (Nat × Nat × Nat × Nat)}
    (hown : s.vm.findClass own = some m.cls) (hlink : (Cond.methodLink own index y).before args s = true) (hinst : (Cond.instanceMethod y).before args s = true) (hsel : (Cond.selects C y y).before args s = true)
    (hcode : (Cond.codeWith y bytes maxL ret hh).before args s = true) (hy : y.cls ≠ "java/lang/invoke/MethodHandle" ∧ y.cls ≠ "java/lang/invoke/VarHandle")
    {W9 : Nat} {Pre : Pt → Array Value → Prop} {Post : Pt → Array Value → Option Value → Pt → Prop} (hK : Back l R p e below s args y 3 W9 Pre Post)
    {b : Addr} {cellB : Cell} (hcell : T.heap[b]? = some cellB) (hobj : cellB.vm.isStatics = false) (hcls : s.vm.findClass C = some cellB.cls)
    {g : JFrame} (hg : g.method = m) (hsize : g.locals.size = c.maxLocals) {argsL rest : List Value} (hlen : ∀ sig, parseMethodDescriptor y.desc = some sig → argsL.length = sig.parameters.length)
    (hstack : g.stack = argsL.reverse ++ .ref b :: rest) (hW : 2 * g.monitorRoom + (rest.map fun v => v.category).sum ≤ W9) (hdg : decode c.code g.pc = .ok (.invokevirtual index, 3))
    (hpre : ∀ vm₁, s.WarmedH vm₁ → Pre ⟨T.setVm vm₁, locs, cells, slots⟩ (Value.ref b :: argsL).toArray) :
    ∃ (v : Option Value) (vm₁ : Vm) (B : Pt), s.WarmedH vm₁ ∧ Stand p l e R s m args below meth c B.U B.locs B.cells B.slots ∧ Post ⟨T.setVm vm₁, locs, cells, slots⟩ (Value.ref b :: argsL).toArray v B ∧
      ∀ target, Steps p.tables e below (B.U.setTop { g with pc := g.pc + 3, stack := v.toList ++ rest }) target → Steps p.tables e below (T.setTop g) target := by
  obtain ⟨mk, methM, hnamed, hmethM, hstM, habM⟩ := Cond.instanceMethod_spec hinst
  obtain ⟨m8, methM', cM, hn8, hmethM', -, -, -, -, -, -, hsigM⟩ := Cond.codeWith_spec hcode
  cases Option.some.inj (hn8.symm.trans hnamed)
  cases hmethM.symm.trans hmethM'
  obtain ⟨c2, r2, m2, q1, q2, q3, q4, kP, hkP, hkPi⟩ := Cond.selects_spec hsel
  cases hcls.symm.trans q1
  cases (State.methodFound?_of_named hnamed hy).symm.trans q2
  cases hnamed.symm.trans q3
  have hselP : selectMethod e.platform s.vm cellB.cls mk = .method mk := by rw [Launch.admits_selectMethod X.admits]; exact q4
  obtain ⟨vm₁, X₁, hstep₁⟩ := X.invokevirtual hexec hown hlink hnamed hmethM hstM hkP hkPi hy (a := b) (cell := cellB) hcell
    (fun z h => by rw [h] at hobj; cases hobj) hselP hmethM habM hkP hkPi (g := g) hg (argsL := argsL) (rest := rest) (hlen _ hsigM) hstack hdg
  obtain ⟨v, B, X', hpost, hsteps⟩ := hK m meth c ⟨T.setVm vm₁, locs, cells, slots⟩ { g with stack := rest } (.invokevirtual index) mk (Value.ref b :: argsL).toArray X₁ hg hsize hdg hW (X₁.named hnamed) (hpre vm₁ X₁.warmed)
  exact ⟨v, vm₁, B, X₁.warmed, X', hpost, fun target h => hstep₁ _ fun acts => by rw [doInvoke_state]; exact hsteps.trans h⟩
abbrev vx_CVW (R : Room) (s : State) (args : Array Value) (own C : String) (index : Nat) (y : MethodName) (bytes : ByteArray) (maxL : Nat) (ret : Option FieldType) (hh : List (Nat × Nat × Nat × Nat)) (ws : List Cond) (rm : Room) (mc ms n : Nat) : Prop :=
  (rm.cells = mc ∧ rm.slots = ms ∧ rm.frames + 1 ≤ R.frames ∧ 8 + (maxL + 11) + rm.locals ≤ R.locals ∧ (∀ w ∈ ws, ∀ (a' : Array Value) (U : State), s.WarmedH U.vm → w.before a' U = true) ∧ Cond.codeWith y bytes maxL ret hh ∈ ws) ∧
  (Cond.codeWith y bytes maxL ret hh).before args s = true ∧ (Cond.initialized y.cls).before args s = true ∧ (y.cls ≠ "java/lang/invoke/MethodHandle" ∧ y.cls ≠ "java/lang/invoke/VarHandle") ∧
  (∀ sig, parseMethodDescriptor y.desc = some sig → n = sig.parameters.length) ∧ (Cond.methodLink own index y).before args s = true ∧ (Cond.instanceMethod y).before args s = true ∧ (Cond.selects C y y).before args s = true
theorem vx_cwVW {own C : String} {index maxL mc ms : Nat} {y : MethodName} {bytes : ByteArray} {ret : Option FieldType} {hh : List (Nat × Nat × Nat × Nat)} {Ts ws ws' : List Cond} {rm : Room} (n : Nat) (ht : ∀ w ∈ Ts, w.before args s = true) (hT : GoodIn Ts (wsV own index C y ws)) (hw : ws = Cond.codeWith y bytes maxL ret hh :: ws') (hrc : rm.cells = mc) (hrs : rm.slots = ms)
    (hd : y.cls = C ∧ y.cls ≠ "java/lang/invoke/MethodHandle" ∧ y.cls ≠ "java/lang/invoke/VarHandle" ∧ (parseMethodDescriptor y.desc).map (fun d => d.parameters.length) = some n) (hR : rm.frames + 1 ≤ R.frames ∧ 8 + (maxL + 11) + rm.locals ≤ R.locals) :
    vx_CVW R s args own C index y bytes maxL ret hh ws rm mc ms n := by
  obtain ⟨hC, hd⟩ := hd
  subst hC
  have ok : ∀ w ∈ wsV own index y.cls y ws, w.before args s = true := fun w h => ht w (hT w h).1
  have hG : GoodIn Ts ws := fun w h => hT w (by unfold wsV; exact List.mem_append_right _ h)
  have hc : Cond.codeWith y bytes maxL ret hh ∈ ws := by rw [hw]; exact List.mem_cons_self
  refine ⟨⟨hrc, hrs, hR.1, hR.2, pay_in ht hG, hc⟩, ht _ (hG _ hc).1, ok _ (by simp [wsV]), ⟨hd.1, hd.2.1⟩, fun sig h => ?_, ok _ (by simp [wsV]), ok _ (by simp [wsV]), ok _ (by simp [wsV])⟩
  have h2 := hd.2.2
  rw [h] at h2
  exact (Option.some.inj h2).symm
theorem vx_runVW {y : MethodName} {bytes cc : ByteArray} {maxL nL mc ms n index : Nat} {ret : Option FieldType} {hh : List (Nat × Nat × Nat × Nat)} {ws : List Cond} {rm : Room} {Pc : Array Value → State → Prop} {Qc : Array Value → State → Outcome → State → Prop} {free : Addr → Prop} {Ts : List Cond} {own C : String} {b : Addr} {As rest : List Value} {g : JFrame}
    (S : CallFix p m c cc nL s args Ts own) (hM : Met l y ws rm Pc Qc mc ms free) (cw : vx_CVW R s args own C index y bytes maxL ret hh ws rm mc ms n) (hp : PreV s H C b Pc As)
    (hg : g.method = m) (hn : As.length = n) (hsize : g.locals.size = nL) (hstack : g.stack = As.reverse ++ .ref b :: rest) (hW : 2 * g.monitorRoom + (rest.map fun v => v.category).sum ≤ 8) (hdg : decode cc g.pc = .ok (.invokevirtual index, 3)) (hf : cells + mc ≤ R.cells ∧ slots + ms ≤ R.slots) :
    va_Run p l e R s m args below meth c H locs cells slots mc ms g rest (Qc (Value.ref b :: As).toArray) free := by
  obtain ⟨⟨hrc, hrs, hfr, hlo, hws, hcw⟩, hcode, hini, hy, hlen, hl, hin, hse⟩ := cw
  have hK : Back l R p e below s args y 3 8 (PreOf R mc ms Pc) (PostOf Qc mc ms free) := va_backW (hh := hh) (bytes := bytes) (maxL := maxL) (ret := ret) hM hp.1 hrc hrs hfr hlo hws hcw (fun a' U hW => word_at hW (Or.inl (by first | rfl | simp [Cond.onTables, Cond.keeps, Cond.steady])) hini)
  obtain ⟨hx, hb, hml, ho, -⟩ := S
  obtain ⟨-, ⟨cellB, hcB, hoB, hclB⟩, hPc⟩ := hp
  intro T hT X
  obtain ⟨v, vm₁, ⟨U', l2, c2, s2⟩, hW₁, X', ⟨g', mk, t, L, e1, e2, hq, h1, hL, h2, h3⟩, st⟩ := vx_callVW X hx (C := C) (hh := hh) (bytes := bytes) (maxL := maxL) (ret := ret) ho hl hin hse hcode hy hK (by rw [hT]; exact hcB) hoB hclB hg (hsize.trans hml.symm) (argsL := As) (rest := rest) (fun sig h => hn.trans (hlen sig h)) hstack hW (by rw [hb]; exact hdg)
    (fun vm₁ hW₁ => ⟨hf.1, hf.2, hPc (T.setVm vm₁) hT hW₁⟩)
  dsimp only [Pt.U, Pt.locs, Pt.cells, Pt.slots] at X' e1 e2 h1 h2 h3 st
  subst h1; subst h2; subst h3
  exact ⟨v, (T.setVm vm₁).calling g' mk (Value.ref b :: As).toArray, t, U', L, hT, X', hL, e1, e2, hq, st⟩
section
variable {y : MethodName} {bytes cc : ByteArray} {maxL nL mc ms n index : Nat} {ret : Option FieldType} {ws : List Cond} {rm : Room} {Pc : Array Value → State → Prop} {Qc : Array Value → State → Outcome → State → Prop} {XC : String → State → State → Prop} {free : Addr → Prop} {Ts : List Cond} {own C : String} {b : Addr} {As rest : List Value} {g : JFrame}
theorem vx_runVX {hh : List (Nat × Nat × Nat × Nat)} (S : CallFix p m c cc nL s args Ts own) (hM : vx_Met l y ws rm Pc Qc XC mc ms free) (cw : vx_CVW R s args own C index y bytes maxL ret hh ws rm mc ms n) (hp : PreV s H C b Pc As)
    (hg : g.method = m) (hn : As.length = n) (hsize : g.locals.size = nL) (hstack : g.stack = As.reverse ++ .ref b :: rest) (hW : 2 * g.monitorRoom + (rest.map fun v => v.category).sum ≤ 8) (hdg : decode cc g.pc = .ok (.invokevirtual index, 3)) (hf : cells + mc ≤ R.cells ∧ slots + ms ≤ R.slots) :
    vx_Run p l e R s m args below meth c H locs cells slots mc ms g rest (Qc (Value.ref b :: As).toArray) XC free := by
  obtain ⟨⟨hrc, hrs, hfr, hlo, hws, hcw⟩, hcode, hini, hy, hlen, hl, hin, hse⟩ := cw
  have hK : vx_Back l R p e below s args y 3 8 (PreOf R mc ms Pc) (PostOf Qc mc ms free) (vx_Post XC mc ms free) := vx_backW (hh := hh) (bytes := bytes) (maxL := maxL) (ret := ret) hM hp.1 hrc hrs hfr hlo hws hcw (fun a' U hW => word_at hW (Or.inl (by first | rfl | simp [Cond.onTables, Cond.keeps, Cond.steady])) hini)
  obtain ⟨hx, hb, hml, ho, -⟩ := S
  obtain ⟨-, ⟨cellB, hcB, hoB, hclB⟩, hPc⟩ := hp
  intro T hT X
  rcases vx_callVX X hx (C := C) (hh := hh) (bytes := bytes) (maxL := maxL) (ret := ret) ho hl hin hse hcode hy hK (by rw [hT]; exact hcB) hoB hclB hg (hsize.trans hml.symm) (argsL := As) (rest := rest) (fun sig h => hn.trans (hlen sig h)) hstack hW (by rw [hb]; exact hdg)
    (fun vm₁ hW₁ => ⟨hf.1, hf.2, hPc (T.setVm vm₁) hT hW₁⟩) with ⟨v, vm₁, ⟨U', l2, c2, s2⟩, hW₁, X', ⟨g', mk, t, L, e1, e2, hq, h1, hL, h2, h3⟩, st⟩ | ⟨q, vm₁, ⟨U', l2, c2, s2⟩, hW₁, X', ⟨g', mk, t, L, E, ce, e1, e2, hq, hce, hcv, hcl, h1, hL, h2, h3⟩, st⟩
  · dsimp only [Pt.U, Pt.locs, Pt.cells, Pt.slots] at X' e1 e2 h1 h2 h3 st
    subst h1; subst h2; subst h3
    exact Or.inl ⟨v, (T.setVm vm₁).calling g' mk (Value.ref b :: As).toArray, t, U', L, hT, X', hL, e1, e2, hq, st⟩
  · dsimp only [Pt.U, Pt.locs, Pt.cells, Pt.slots] at X' e1 e2 h1 h2 h3 st hcl
    subst h1; subst h2; subst h3
    exact Or.inr ⟨q, (T.setVm vm₁).calling g' mk (Value.ref b :: As).toArray, t, U', L, E, ce, hT, X', hL, e1, e2, hq, hce, hcv, vx_cls hW₁ hcl, st⟩
theorem vx_runSX {hh : List (Nat × Nat × Nat × Nat)} (S : CallFix p m c cc nL s args Ts own) (hM : vx_Met l y ws rm Pc Qc XC mc ms free) (cw : vx_CSW R s args own index y bytes maxL ret hh ws rm mc ms n) (hp : PreS s H Pc As)
    (hg : g.method = m) (hn : As.length = n) (hsize : g.locals.size = nL) (hstack : g.stack = As.reverse ++ rest) (hW : 2 * g.monitorRoom + (rest.map fun v => v.category).sum ≤ 8) (hdg : decode cc g.pc = .ok (.invokestatic index, 3)) (hf : cells + mc ≤ R.cells ∧ slots + ms ≤ R.slots) :
    vx_Run p l e R s m args below meth c H locs cells slots mc ms g rest (Qc As.toArray) XC free := by
  obtain ⟨⟨hrc, hrs, hfr, hlo, hws, hcw⟩, hcode, hini, hy, hlen, hl, hstt⟩ := cw
  have hK : vx_Back l R p e below s args y 3 8 (PreOf R mc ms Pc) (PostOf Qc mc ms free) (vx_Post XC mc ms free) := vx_backW (hh := hh) (bytes := bytes) (maxL := maxL) (ret := ret) hM hp.1 hrc hrs hfr hlo hws hcw (fun a' U hW => word_at hW (Or.inl (by first | rfl | simp [Cond.onTables, Cond.keeps, Cond.steady])) hini)
  obtain ⟨hx, hb, hml, ho, -⟩ := S
  intro T hT X
  rcases vx_callSX X hx (hh := hh) (bytes := bytes) (maxL := maxL) (ret := ret) ho hl hstt hini hcode hy hK hg (hsize.trans hml.symm) (argsL := As) (rest := rest) (fun sig h => hn.trans (hlen sig h)) hstack hW (by rw [hb]; exact hdg)
    (fun vm₁ hW₁ => ⟨hf.1, hf.2, hp.2 (T.setVm vm₁) hT hW₁⟩) with ⟨v, vm₁, ⟨U', l2, c2, s2⟩, hW₁, X', ⟨g', mk, t, L, e1, e2, hq, h1, hL, h2, h3⟩, st⟩ | ⟨q, vm₁, ⟨U', l2, c2, s2⟩, hW₁, X', ⟨g', mk, t, L, E, ce, e1, e2, hq, hce, hcv, hcl, h1, hL, h2, h3⟩, st⟩
  · dsimp only [Pt.U, Pt.locs, Pt.cells, Pt.slots] at X' e1 e2 h1 h2 h3 st
    subst h1; subst h2; subst h3
    exact Or.inl ⟨v, (T.setVm vm₁).calling g' mk As.toArray, t, U', L, hT, X', hL, e1, e2, hq, st⟩
  · dsimp only [Pt.U, Pt.locs, Pt.cells, Pt.slots] at X' e1 e2 h1 h2 h3 st hcl
    subst h1; subst h2; subst h3
    exact Or.inr ⟨q, (T.setVm vm₁).calling g' mk As.toArray, t, U', L, E, ce, hT, X', hL, e1, e2, hq, hce, hcv, vx_cls hW₁ hcl, st⟩
end
end VXH
theorem vx_ofWH {l : Launch} {y : MethodName} {ws ws' : List Cond} {rm : Room} {Pc : Array Value → State → Prop} {Qc : Array Value → State → Outcome → State → Prop} {XC : String → State → State → Prop} {mc ms : Nat} {free : Addr → Prop} {cc : ByteArray} {maxL : Nat} {ret : Option FieldType} {hh : List (Nat × Nat × Nat × Nat)}
    (hy : plainName y.cls = true) (hw : ws = Cond.codeWith y cc maxL ret hh :: ws')
    (body : ∀ p e s m args below meth c s₁, BodyLoose p l y (headSpec ws rm) cc maxL ret e s m args below meth c s₁ → c.maxLocals = maxL → Pc args s →
      W p l e (headSpec ws rm).room s m args below meth c s.heap [] 0 0 (vx_MQ below Qc XC args s mc ms free) (entryFrame m args maxL)) : vx_Met l y ws rm Pc Qc XC mc ms free := by
  refine MetFree.of_bodyS (code := cc) (maxLocals := maxL) (ret := ret) hy ?_ ?_
  · intro args s m h hn
    obtain ⟨m9, meth, c, hn9, h1, h2, h3, h4, -, h5, h6, -⟩ := Cond.codeWith_spec (atoms_spec (ws := ws) h _ (by rw [hw]; exact List.mem_cons_self))
    cases hn.symm.trans hn9
    exact ⟨meth, c, h1, h2, h3, h4, h5, h6⟩
  · intro p e s m args below meth c s₁ B hml hP _
    have hh0 : s₁.heap = s.heap := by rw [B.state]; rfl
    obtain ⟨t, a1, o, b1, b2, b3⟩ := body p e s m args below meth c s₁ B hml hP s₁ hh0 (Stand.of_body B)
    exact ⟨t, o, a1, b1, b2, b3⟩
/-! ===== END ===== -/
end
section
/-! ===== BEGIN printed: names, fields, word lists, decode rows ===== -/
def RX0 : String := "RdfsRules$Axioms"
def TX0 : u_T := fun k => match k with
  | 0 => ("RdfsRules$Axioms", "membershipsBelong", "Z", true)
  | 1 => ("RdfsRules$Axioms", "asked", "Z", false)
  | _ => ("RdfsRules$Axioms", "count", "I", false)
def tyX0 : Nat → FieldType := fun k => match k with
  | 0 => .boolean
  | 1 => .boolean
  | _ => .int
abbrev wsX00 : List Cond := u_ws RX0 TX0 3
theorem nmX0 : ∀ a, a < 3 → ∀ b, b < 3 → a ≠ b → (TX0 a).2.1 ≠ (TX0 b).2.1 := by decide +kernel
theorem tyX0_ok : ∀ k, k < 3 → parseFieldDescriptor (TX0 k).2.2.1 = some (tyX0 k) := by decide +kernel
abbrev cX0_init : ByteArray := prog_2_method_1_code
def yX0_init : MethodName := ⟨RX0, "<init>", "(Z)V"⟩
abbrev cX0_ask : ByteArray := prog_2_method_2_code
def yX0_ask : MethodName := ⟨RX0, "ask", "(Z)V"⟩
abbrev cX0_setCount : ByteArray := prog_2_method_3_code
def yX0_setCount : MethodName := ⟨RX0, "setCount", "(I)V"⟩
abbrev cX0_memberships : ByteArray := prog_2_method_4_code
def yX0_memberships : MethodName := ⟨RX0, "memberships", "()I"⟩
abbrev cX0_contains : ByteArray := prog_2_method_5_code
def yX0_contains : MethodName := ⟨RX0, "contains", "(III)Z"⟩
abbrev cX0_appendTo : ByteArray := prog_2_method_6_code
def yX0_appendTo : MethodName := ⟨RX0, "appendTo", "(LRdfsRules$Rows;)V"⟩
abbrev cX0_size : ByteArray := prog_2_method_7_code
def yX0_size : MethodName := ⟨RX0, "size", "()I"⟩
abbrev cX0_subject : ByteArray := prog_2_method_8_code
def yX0_subject : MethodName := ⟨RX0, "subject", "(I)I"⟩
abbrev cX0_property : ByteArray := prog_2_method_9_code
def yX0_property : MethodName := ⟨RX0, "property", "(I)I"⟩
abbrev cX0_object : ByteArray := prog_2_method_10_code
def yX0_object : MethodName := ⟨RX0, "object", "(I)I"⟩
def RX1 : String := "RdfsRules$GivenFacts"
def TX1 : u_T := fun k => match k with
  | 0 => ("RdfsRules$GivenFacts", "subjects", "[I", true)
  | 1 => ("RdfsRules$GivenFacts", "properties", "[I", true)
  | 2 => ("RdfsRules$GivenFacts", "objects", "[I", true)
  | _ => ("RdfsRules$GivenFacts", "size", "I", false)
def tyX1 : Nat → FieldType := fun k => match k with
  | 0 => .array .int
  | 1 => .array .int
  | 2 => .array .int
  | _ => .int
abbrev wsX10 : List Cond := u_ws RX1 TX1 4
theorem nmX1 : ∀ a, a < 4 → ∀ b, b < 4 → a ≠ b → (TX1 a).2.1 ≠ (TX1 b).2.1 := by decide +kernel
theorem tyX1_ok : ∀ k, k < 4 → parseFieldDescriptor (TX1 k).2.2.1 = some (tyX1 k) := by decide +kernel
abbrev cX1_init : ByteArray := prog_3_method_1_code
def yX1_init : MethodName := ⟨RX1, "<init>", "()V"⟩
abbrev cX1_size : ByteArray := prog_3_method_2_code
def yX1_size : MethodName := ⟨RX1, "size", "()I"⟩
abbrev cX1_placeOf : ByteArray := prog_3_method_3_code
def yX1_placeOf : MethodName := ⟨RX1, "placeOf", "(III)I"⟩
abbrev cX1_append : ByteArray := prog_3_method_4_code
def yX1_append : MethodName := ⟨RX1, "append", "(III)V"⟩
abbrev cX1_dropAt : ByteArray := prog_3_method_5_code
def yX1_dropAt : MethodName := ⟨RX1, "dropAt", "(I)V"⟩
abbrev cX1_appendTo : ByteArray := prog_3_method_6_code
def yX1_appendTo : MethodName := ⟨RX1, "appendTo", "(LRdfsRules$Rows;)V"⟩
def RX2 : String := "RdfsRules$Reasoner"
def TX2 : u_T := fun k => match k with
  | 0 => ("RdfsRules$Reasoner", "terms", "LRdfsRules$Terms;", true)
  | 1 => ("RdfsRules$Reasoner", "rows", "LRdfsRules$Rows;", false)
  | 2 => ("RdfsRules$Reasoner", "spent", "I", false)
  | 3 => ("RdfsRules$Reasoner", "end", "I", false)
  | 4 => ("RdfsRules$Reasoner", "round", "I", false)
  | 5 => ("RdfsRules$Reasoner", "maker", "I", false)
  | 6 => ("RdfsRules$Reasoner", "first", "I", false)
  | _ => ("RdfsRules$Reasoner", "second", "I", false)
def tyX2 : Nat → FieldType := fun k => match k with
  | 0 => .object "RdfsRules$Terms"
  | 1 => .object "RdfsRules$Rows"
  | 2 => .int
  | 3 => .int
  | 4 => .int
  | 5 => .int
  | 6 => .int
  | _ => .int
abbrev wsX20 : List Cond := u_ws RX2 TX2 8
theorem nmX2 : ∀ a, a < 8 → ∀ b, b < 8 → a ≠ b → (TX2 a).2.1 ≠ (TX2 b).2.1 := by decide +kernel
theorem tyX2_ok : ∀ k, k < 8 → parseFieldDescriptor (TX2 k).2.2.1 = some (tyX2 k) := by decide +kernel
abbrev cX2_init : ByteArray := prog_4_method_1_code
def yX2_init : MethodName := ⟨RX2, "<init>", "(LRdfsRules$Terms;LRdfsRules$Rows;)V"⟩
abbrev cX2_close : ByteArray := prog_4_method_2_code
def yX2_close : MethodName := ⟨RX2, "close", "(LRdfsRules$Rows;)I"⟩
abbrev cX2_firstProperty : ByteArray := prog_4_method_3_code
def yX2_firstProperty : MethodName := ⟨RX2, "firstProperty", "()I"⟩
abbrev cX2_settledParts : ByteArray := prog_4_method_4_code
def yX2_settledParts : MethodName := ⟨RX2, "settledParts", "()[I"⟩
abbrev cX2_applyToSingles : ByteArray := prog_4_method_5_code
def yX2_applyToSingles : MethodName := ⟨RX2, "applyToSingles", "()V"⟩
abbrev cX2_applyToPairs : ByteArray := prog_4_method_6_code
def yX2_applyToPairs : MethodName := ⟨RX2, "applyToPairs", "()V"⟩
abbrev cX2_makeOfOne : ByteArray := prog_4_method_7_code
def yX2_makeOfOne : MethodName := ⟨RX2, "makeOfOne", "(III)V"⟩
abbrev cX2_makeOfTwo : ByteArray := prog_4_method_8_code
def yX2_makeOfTwo : MethodName := ⟨RX2, "makeOfTwo", "(IIIII)V"⟩
abbrev cX2_make : ByteArray := prog_4_method_9_code
def yX2_make : MethodName := ⟨RX2, "make", "(III)V"⟩
def RX3 : String := "RdfsRules$Rows"
def TX3 : u_T := fun k => match k with
  | 0 => ("RdfsRules$Rows", "subjects", "[I", true)
  | 1 => ("RdfsRules$Rows", "properties", "[I", true)
  | 2 => ("RdfsRules$Rows", "objects", "[I", true)
  | 3 => ("RdfsRules$Rows", "rules", "[I", true)
  | 4 => ("RdfsRules$Rows", "firsts", "[I", true)
  | 5 => ("RdfsRules$Rows", "seconds", "[I", true)
  | 6 => ("RdfsRules$Rows", "rounds", "[I", true)
  | 7 => ("RdfsRules$Rows", "rowAtSlot", "[I", true)
  | 8 => ("RdfsRules$Rows", "rests", "[Z", true)
  | 9 => ("RdfsRules$Rows", "size", "I", false)
  | 10 => ("RdfsRules$Rows", "overfull", "Z", false)
  | _ => ("RdfsRules$Rows", "axiomMemberships", "I", false)
def tyX3 : Nat → FieldType := fun k => match k with
  | 0 => .array .int
  | 1 => .array .int
  | 2 => .array .int
  | 3 => .array .int
  | 4 => .array .int
  | 5 => .array .int
  | 6 => .array .int
  | 7 => .array .int
  | 8 => .array .boolean
  | 9 => .int
  | 10 => .boolean
  | _ => .int
abbrev wsX30 : List Cond := u_ws RX3 TX3 12
theorem nmX3 : ∀ a, a < 12 → ∀ b, b < 12 → a ≠ b → (TX3 a).2.1 ≠ (TX3 b).2.1 := by decide +kernel
theorem tyX3_ok : ∀ k, k < 12 → parseFieldDescriptor (TX3 k).2.2.1 = some (tyX3 k) := by decide +kernel
abbrev cX3_init : ByteArray := prog_5_method_1_code
def yX3_init : MethodName := ⟨RX3, "<init>", "()V"⟩
abbrev cX3_restart : ByteArray := prog_5_method_2_code
def yX3_restart : MethodName := ⟨RX3, "restart", "(I)V"⟩
abbrev cX3_size : ByteArray := prog_5_method_3_code
def yX3_size : MethodName := ⟨RX3, "size", "()I"⟩
abbrev cX3_isOverfull : ByteArray := prog_5_method_4_code
def yX3_isOverfull : MethodName := ⟨RX3, "isOverfull", "()Z"⟩
abbrev cX3_isRow : ByteArray := prog_5_method_5_code
def yX3_isRow : MethodName := ⟨RX3, "isRow", "(I)Z"⟩
abbrev cX3_rowOf : ByteArray := prog_5_method_6_code
def yX3_rowOf : MethodName := ⟨RX3, "rowOf", "(III)I"⟩
abbrev cX3_addNew : ByteArray := prog_5_method_7_code
def yX3_addNew : MethodName := ⟨RX3, "addNew", "(IIIIIII)V"⟩
abbrev cX3_slotOf : ByteArray := prog_5_method_8_code
def yX3_slotOf : MethodName := ⟨RX3, "slotOf", "(III)I"⟩
abbrev cX3_part : ByteArray := prog_5_method_9_code
def yX3_part : MethodName := ⟨RX3, "part", "(II)I"⟩
abbrev cX3_restSize : ByteArray := prog_5_method_10_code
def yX3_restSize : MethodName := ⟨RX3, "restSize", "(I)I"⟩
abbrev cX3_restMember : ByteArray := prog_5_method_11_code
def yX3_restMember : MethodName := ⟨RX3, "restMember", "(II)I"⟩
abbrev cX3_markRest : ByteArray := prog_5_method_12_code
def yX3_markRest : MethodName := ⟨RX3, "markRest", "(I)V"⟩
abbrev cX3_markIfRow : ByteArray := prog_5_method_13_code
def yX3_markIfRow : MethodName := ⟨RX3, "markIfRow", "(I)V"⟩
abbrev cX3_madeBy : ByteArray := prog_5_method_14_code
def yX3_madeBy : MethodName := ⟨RX3, "madeBy", "(I)I"⟩
abbrev cX3_literalSubjects : ByteArray := prog_5_method_15_code
def yX3_literalSubjects : MethodName := ⟨RX3, "literalSubjects", "()I"⟩
abbrev cX3_membershipsBeyondAxioms : ByteArray := prog_5_method_16_code
def yX3_membershipsBeyondAxioms : MethodName := ⟨RX3, "membershipsBeyondAxioms", "()I"⟩
def RX4 : String := "RdfsRules$Terms"
def TX4 : u_T := fun k => match k with
  | 0 => ("RdfsRules$Terms", "literalTypes", "[I", true)
  | _ => ("RdfsRules$Terms", "literals", "I", false)
def tyX4 : Nat → FieldType := fun k => match k with
  | 0 => .array .int
  | _ => .int
abbrev wsX40 : List Cond := u_ws RX4 TX4 2
theorem nmX4 : ∀ a, a < 2 → ∀ b, b < 2 → a ≠ b → (TX4 a).2.1 ≠ (TX4 b).2.1 := by decide +kernel
theorem tyX4_ok : ∀ k, k < 2 → parseFieldDescriptor (TX4 k).2.2.1 = some (tyX4 k) := by decide +kernel
abbrev cX4_init : ByteArray := prog_6_method_1_code
def yX4_init : MethodName := ⟨RX4, "<init>", "()V"⟩
abbrev cX4_literals : ByteArray := prog_6_method_2_code
def yX4_literals : MethodName := ⟨RX4, "literals", "()I"⟩
abbrev cX4_isNonLiteral : ByteArray := prog_6_method_3_code
def yX4_isNonLiteral : MethodName := ⟨RX4, "isNonLiteral", "(I)Z"⟩
abbrev cX4_isLiteral : ByteArray := prog_6_method_4_code
def yX4_isLiteral : MethodName := ⟨RX4, "isLiteral", "(I)Z"⟩
abbrev cX4_isTerm : ByteArray := prog_6_method_5_code
def yX4_isTerm : MethodName := ⟨RX4, "isTerm", "(I)Z"⟩
abbrev cX4_typeOf : ByteArray := prog_6_method_6_code
def yX4_typeOf : MethodName := ⟨RX4, "typeOf", "(I)I"⟩
abbrev cX4_addLiteral : ByteArray := prog_6_method_7_code
def yX4_addLiteral : MethodName := ⟨RX4, "addLiteral", "(I)I"⟩
def RX5 : String := "RdfsRules"
def TX5 : u_T := fun k => match k with
  | 0 => ("RdfsRules", "terms", "LRdfsRules$Terms;", true)
  | 1 => ("RdfsRules", "given", "LRdfsRules$GivenFacts;", true)
  | 2 => ("RdfsRules", "axiomSet", "LRdfsRules$Axioms;", true)
  | 3 => ("RdfsRules", "reasoner", "LRdfsRules$Reasoner;", true)
  | 4 => ("RdfsRules", "latest", "LRdfsRules$Rows;", false)
  | _ => ("RdfsRules", "spare", "LRdfsRules$Rows;", false)
def tyX5 : Nat → FieldType := fun k => match k with
  | 0 => .object "RdfsRules$Terms"
  | 1 => .object "RdfsRules$GivenFacts"
  | 2 => .object "RdfsRules$Axioms"
  | 3 => .object "RdfsRules$Reasoner"
  | 4 => .object "RdfsRules$Rows"
  | _ => .object "RdfsRules$Rows"
abbrev wsX50 : List Cond := u_ws RX5 TX5 6
theorem nmX5 : ∀ a, a < 6 → ∀ b, b < 6 → a ≠ b → (TX5 a).2.1 ≠ (TX5 b).2.1 := by decide +kernel
theorem tyX5_ok : ∀ k, k < 6 → parseFieldDescriptor (TX5 k).2.2.1 = some (tyX5 k) := by decide +kernel
abbrev cX5_init : ByteArray := prog_1_method_1_code
def yX5_init : MethodName := ⟨RX5, "<init>", "(I)V"⟩
abbrev cX5_literal : ByteArray := prog_1_method_2_code
def yX5_literal : MethodName := ⟨RX5, "literal", "(I)I"⟩
abbrev cX5_triple : ByteArray := prog_1_method_3_code
def yX5_triple : MethodName := ⟨RX5, "triple", "(III)I"⟩
abbrev cX5_remove : ByteArray := prog_1_method_4_code
def yX5_remove : MethodName := ⟨RX5, "remove", "(III)I"⟩
abbrev cX5_axioms : ByteArray := prog_1_method_5_code
def yX5_axioms : MethodName := ⟨RX5, "axioms", "(Z)V"⟩
abbrev cX5_count : ByteArray := prog_1_method_6_code
def yX5_count : MethodName := ⟨RX5, "count", "(I)V"⟩
abbrev cX5_run : ByteArray := prog_1_method_7_code
def yX5_run : MethodName := ⟨RX5, "run", "()I"⟩
abbrev cX5_closed : ByteArray := prog_1_method_8_code
def yX5_closed : MethodName := ⟨RX5, "closed", "(II)I"⟩
abbrev cX5_find : ByteArray := prog_1_method_9_code
def yX5_find : MethodName := ⟨RX5, "find", "(III)I"⟩
abbrev cX5_trace : ByteArray := prog_1_method_10_code
def yX5_trace : MethodName := ⟨RX5, "trace", "(I)I"⟩
abbrev cX5_proof : ByteArray := prog_1_method_11_code
def yX5_proof : MethodName := ⟨RX5, "proof", "(II)I"⟩
abbrev cX5_rule : ByteArray := prog_1_method_12_code
def yX5_rule : MethodName := ⟨RX5, "rule", "(I)I"⟩
abbrev cX5_told : ByteArray := prog_1_method_13_code
def yX5_told : MethodName := ⟨RX5, "told", "(I)I"⟩
abbrev cX5_mayBeFact : ByteArray := prog_1_method_14_code
def yX5_mayBeFact : MethodName := ⟨RX5, "mayBeFact", "(III)Z"⟩
def RX6 : String := "RdfsRulesModel"
def TX6 : u_T := fun k => match k with
  | 0 => ("RdfsRulesModel", "code", "I", false)
  | 1 => ("RdfsRulesModel", "memberships", "Z", true)
  | 2 => ("RdfsRulesModel", "asked", "Z", false)
  | 3 => ("RdfsRulesModel", "counted", "I", false)
  | 4 => ("RdfsRulesModel", "given", "I", false)
  | 5 => ("RdfsRulesModel", "facts", "[I", true)
  | 6 => ("RdfsRulesModel", "literals", "I", false)
  | 7 => ("RdfsRulesModel", "types", "[I", true)
  | 8 => ("RdfsRulesModel", "rows", "I", false)
  | 9 => ("RdfsRulesModel", "closure", "[I", true)
  | 10 => ("RdfsRulesModel", "among", "I", false)
  | 11 => ("RdfsRulesModel", "made", "I", false)
  | 12 => ("RdfsRulesModel", "fresh", "[I", true)
  | 13 => ("RdfsRulesModel", "places", "[I", true)
  | 14 => ("RdfsRulesModel", "full", "Z", false)
  | _ => ("RdfsRulesModel", "rests", "[I", true)
def tyX6 : Nat → FieldType := fun k => match k with
  | 0 => .int
  | 1 => .boolean
  | 2 => .boolean
  | 3 => .int
  | 4 => .int
  | 5 => .array .int
  | 6 => .int
  | 7 => .array .int
  | 8 => .int
  | 9 => .array .int
  | 10 => .int
  | 11 => .int
  | 12 => .array .int
  | 13 => .array .int
  | 14 => .boolean
  | _ => .array .int
abbrev wsX60 : List Cond := u_ws RX6 TX6 16
theorem nmX6 : ∀ a, a < 16 → ∀ b, b < 16 → a ≠ b → (TX6 a).2.1 ≠ (TX6 b).2.1 := by decide +kernel
theorem tyX6_ok : ∀ k, k < 16 → parseFieldDescriptor (TX6 k).2.2.1 = some (tyX6 k) := by decide +kernel
abbrev cX6_init : ByteArray := prog_8_method_1_code
def yX6_init : MethodName := ⟨RX6, "<init>", "(I)V"⟩
abbrev cX6_thrown : ByteArray := prog_8_method_2_code
def yX6_thrown : MethodName := ⟨RX6, "thrown", "()I"⟩
abbrev cX6_refuses : ByteArray := prog_8_method_3_code
def yX6_refuses : MethodName := ⟨RX6, "refuses", "(I)Z"⟩
abbrev cX6_isLiteral : ByteArray := prog_8_method_4_code
def yX6_isLiteral : MethodName := ⟨RX6, "isLiteral", "(I)Z"⟩
abbrev cX6_isPlain : ByteArray := prog_8_method_5_code
def yX6_isPlain : MethodName := ⟨RX6, "isPlain", "(I)Z"⟩
abbrev cX6_literal : ByteArray := prog_8_method_6_code
def yX6_literal : MethodName := ⟨RX6, "literal", "(I)I"⟩
abbrev cX6_place : ByteArray := prog_8_method_7_code
def yX6_place : MethodName := ⟨RX6, "place", "(III)I"⟩
abbrev cX6_isFact : ByteArray := prog_8_method_8_code
def yX6_isFact : MethodName := ⟨RX6, "isFact", "(III)Z"⟩
abbrev cX6_triple : ByteArray := prog_8_method_9_code
def yX6_triple : MethodName := ⟨RX6, "triple", "(III)I"⟩
abbrev cX6_axiom : ByteArray := prog_8_method_10_code
def yX6_axiom : MethodName := ⟨RX6, "axiom", "(I)I"⟩
abbrev cX6_isAxiom : ByteArray := prog_8_method_11_code
def yX6_isAxiom : MethodName := ⟨RX6, "isAxiom", "(III)Z"⟩
abbrev cX6_remove : ByteArray := prog_8_method_12_code
def yX6_remove : MethodName := ⟨RX6, "remove", "(III)I"⟩
abbrev cX6_axioms : ByteArray := prog_8_method_13_code
def yX6_axioms : MethodName := ⟨RX6, "axioms", "(Z)V"⟩
abbrev cX6_count : ByteArray := prog_8_method_14_code
def yX6_count : MethodName := ⟨RX6, "count", "(I)V"⟩
abbrev cX6_slot : ByteArray := prog_8_method_15_code
def yX6_slot : MethodName := ⟨RX6, "slot", "(III)I"⟩
abbrev cX6_makes : ByteArray := prog_8_method_16_code
def yX6_makes : MethodName := ⟨RX6, "makes", "(IIIIIII)V"⟩
abbrev cX6_ofOne : ByteArray := prog_8_method_17_code
def yX6_ofOne : MethodName := ⟨RX6, "ofOne", "(III)V"⟩
abbrev cX6_firstOf : ByteArray := prog_8_method_18_code
def yX6_firstOf : MethodName := ⟨RX6, "firstOf", "(I)I"⟩
abbrev cX6_ofTwo : ByteArray := prog_8_method_19_code
def yX6_ofTwo : MethodName := ⟨RX6, "ofTwo", "(IIII)V"⟩
abbrev cX6_run : ByteArray := prog_8_method_20_code
def yX6_run : MethodName := ⟨RX6, "run", "()I"⟩
abbrev cX6_closed : ByteArray := prog_8_method_21_code
def yX6_closed : MethodName := ⟨RX6, "closed", "(II)I"⟩
abbrev cX6_find : ByteArray := prog_8_method_22_code
def yX6_find : MethodName := ⟨RX6, "find", "(III)I"⟩
abbrev cX6_marks : ByteArray := prog_8_method_23_code
def yX6_marks : MethodName := ⟨RX6, "marks", "(I)I"⟩
abbrev cX6_trace : ByteArray := prog_8_method_24_code
def yX6_trace : MethodName := ⟨RX6, "trace", "(I)I"⟩
abbrev cX6_proof : ByteArray := prog_8_method_25_code
def yX6_proof : MethodName := ⟨RX6, "proof", "(II)I"⟩
abbrev cX6_rule : ByteArray := prog_8_method_26_code
def yX6_rule : MethodName := ⟨RX6, "rule", "(I)I"⟩
abbrev cX6_told : ByteArray := prog_8_method_27_code
def yX6_told : MethodName := ⟨RX6, "told", "(I)I"⟩
def RJ0 : String := "java/lang/String"
def TJ0 : u_T := fun k => match k with
  | _ => ("", "", "", false)
def tyJ0 : Nat → FieldType := fun k => match k with
  | _ => .int
abbrev wsJ00 : List Cond := u_ws RJ0 TJ0 0
theorem nmJ0 : ∀ a, a < 0 → ∀ b, b < 0 → a ≠ b → (TJ0 a).2.1 ≠ (TJ0 b).2.1 := by decide +kernel
theorem tyJ0_ok : ∀ k, k < 0 → parseFieldDescriptor (TJ0 k).2.2.1 = some (tyJ0 k) := by decide +kernel
def RJ7 : String := "java/util/Arrays"
def TJ7 : u_T := fun k => match k with
  | _ => ("", "", "", false)
def tyJ7 : Nat → FieldType := fun k => match k with
  | _ => .int
abbrev wsJ70 : List Cond := u_ws RJ7 TJ7 0
theorem nmJ7 : ∀ a, a < 0 → ∀ b, b < 0 → a ≠ b → (TJ7 a).2.1 ≠ (TJ7 b).2.1 := by decide +kernel
theorem tyJ7_ok : ∀ k, k < 0 → parseFieldDescriptor (TJ7 k).2.2.1 = some (tyJ7 k) := by decide +kernel
abbrev cJ7_fill_53178 : ByteArray := prog_16_method_103_code
def yJ7_fill_53178 : MethodName := ⟨RJ7, "fill", "([II)V"⟩
def RL : String := "RdfsRulesLaw"
abbrev cL_cell : ByteArray := method_2_code
def yL_cell : MethodName := ⟨RL, "cell", "([II)I"⟩
abbrev cL_literal : ByteArray := method_3_code
def yL_literal : MethodName := ⟨RL, "literal", "(LRdfsRules;I[J)I"⟩
abbrev cL_triple : ByteArray := method_4_code
def yL_triple : MethodName := ⟨RL, "triple", "(LRdfsRules;III[J)I"⟩
abbrev cL_remove : ByteArray := method_5_code
def yL_remove : MethodName := ⟨RL, "remove", "(LRdfsRules;III[J)I"⟩
abbrev cL_count : ByteArray := method_6_code
def yL_count : MethodName := ⟨RL, "count", "(LRdfsRules;I)I"⟩
abbrev cL_run : ByteArray := method_7_code
def yL_run : MethodName := ⟨RL, "run", "(LRdfsRules;[J)I"⟩
abbrev cL_closed : ByteArray := method_8_code
def yL_closed : MethodName := ⟨RL, "closed", "(LRdfsRules;II[J)I"⟩
abbrev cL_trace : ByteArray := method_9_code
def yL_trace : MethodName := ⟨RL, "trace", "(LRdfsRules;I[J)I"⟩
abbrev cL_proof : ByteArray := method_10_code
def yL_proof : MethodName := ⟨RL, "proof", "(LRdfsRules;II[J)I"⟩
abbrev cL_rule : ByteArray := method_11_code
def yL_rule : MethodName := ⟨RL, "rule", "(LRdfsRules;I[J)I"⟩
abbrev cL_told : ByteArray := method_12_code
def yL_told : MethodName := ⟨RL, "told", "(LRdfsRules;I[J)I"⟩
abbrev cL_law : ByteArray := code
def yL_law : MethodName := ⟨RL, "law", "([I)Z"⟩
def wsX0_init : List Cond := .code yX0_init cX0_init 2 none :: ([.methodLink RX0 3 objectInit, .instanceMethod objectInit, .code objectInit ⟨#[0xb1]⟩ 1 none, .fieldLink RX0 9 "RdfsRules$Axioms" "asked" "Z", .fieldLink RX0 15 "RdfsRules$Axioms" "count" "I", .fieldLink RX0 19 "RdfsRules$Axioms" "membershipsBelong" "Z"] ++ wsX00)
def wsX0_ask : List Cond := .code yX0_ask cX0_ask 2 none :: ([.fieldLink RX0 9 "RdfsRules$Axioms" "asked" "Z"] ++ wsX00)
def wsX0_setCount : List Cond := .code yX0_setCount cX0_setCount 2 none :: ([.fieldLink RX0 15 "RdfsRules$Axioms" "count" "I"] ++ wsX00)
def wsX0_memberships : List Cond := .code yX0_memberships cX0_memberships 1 (some .int) :: ([.fieldLink RX0 9 "RdfsRules$Axioms" "asked" "Z", .fieldLink RX0 19 "RdfsRules$Axioms" "membershipsBelong" "Z", .fieldLink RX0 15 "RdfsRules$Axioms" "count" "I"] ++ wsX00)
def wsX0_size : List Cond := .code yX0_size cX0_size 1 (some .int) :: ([.fieldLink RX0 9 "RdfsRules$Axioms" "asked" "Z", .methodLink RX0 42 yX0_memberships, .instanceMethod yX0_memberships, .selects RX0 yX0_memberships yX0_memberships, .initialized RX0, .code yX0_memberships cX0_memberships 1 (some .int), .fieldLink RX0 19 "RdfsRules$Axioms" "membershipsBelong" "Z", .fieldLink RX0 15 "RdfsRules$Axioms" "count" "I"] ++ wsX00)
def wsX0_subject : List Cond := .code yX0_subject cX0_subject 2 (some .int) :: ([.fieldLink RX0 45 "RdfsRules$Axioms" "FIXED" "[I"])
def wsX0_property : List Cond := .code yX0_property cX0_property 2 (some .int) :: ([.fieldLink RX0 45 "RdfsRules$Axioms" "FIXED" "[I", .fieldLink RX0 49 "RdfsRules$Axioms" "OF_MEMBERSHIP" "[I"])
def wsX0_object : List Cond := .code yX0_object cX0_object 2 (some .int) :: ([.fieldLink RX0 45 "RdfsRules$Axioms" "FIXED" "[I", .fieldLink RX0 49 "RdfsRules$Axioms" "OF_MEMBERSHIP" "[I"])
def wsX0_contains_r1 : List Cond := [Cond.methodLink RX0 22 yX0_size, Cond.instanceMethod yX0_size, Cond.selects RX0 yX0_size yX0_size, Cond.initialized RX0, Cond.code yX0_size cX0_size 1 (some .int), Cond.fieldLink RX0 9 "RdfsRules$Axioms" "asked" "Z", Cond.methodLink RX0 42 yX0_memberships, Cond.instanceMethod yX0_memberships, Cond.selects RX0 yX0_memberships yX0_memberships, Cond.code yX0_memberships cX0_memberships 1 (some .int), Cond.fieldLink RX0 19 "RdfsRules$Axioms" "membershipsBelong" "Z", Cond.fieldLink RX0 15 "RdfsRules$Axioms" "count" "I", Cond.methodLink RX0 26 yX0_subject, Cond.instanceMethod yX0_subject, Cond.selects RX0 yX0_subject yX0_subject, Cond.code yX0_subject cX0_subject 2 (some .int), Cond.fieldLink RX0 45 "RdfsRules$Axioms" "FIXED" "[I", Cond.methodLink RX0 30 yX0_property, Cond.instanceMethod yX0_property, Cond.selects RX0 yX0_property yX0_property, Cond.code yX0_property cX0_property 2 (some .int), Cond.fieldLink RX0 49 "RdfsRules$Axioms" "OF_MEMBERSHIP" "[I", Cond.methodLink RX0 33 yX0_object, Cond.instanceMethod yX0_object]
def wsX0_contains_r2 : List Cond := [Cond.selects RX0 yX0_object yX0_object, Cond.code yX0_object cX0_object 2 (some .int)]
def wsX0_contains : List Cond := .code yX0_contains cX0_contains 6 (some .boolean) :: ((wsX0_contains_r1 ++ wsX0_contains_r2) ++ wsX00)
def wsX3_slotOf : List Cond := .code yX3_slotOf cX3_slotOf 7 (some .int) :: ([.constant RX3 61 (-1640531527), .fieldLink RX3 33 "RdfsRules$Rows" "rowAtSlot" "[I", .fieldLink RX3 9 "RdfsRules$Rows" "subjects" "[I", .fieldLink RX3 15 "RdfsRules$Rows" "properties" "[I", .fieldLink RX3 18 "RdfsRules$Rows" "objects" "[I"] ++ wsX30)
def wsX3_addNew : List Cond := .code yX3_addNew cX3_addNew 9 none :: ([.fieldLink RX3 33 "RdfsRules$Rows" "rowAtSlot" "[I", .fieldLink RX3 40 "RdfsRules$Rows" "size" "I", .fieldLink RX3 44 "RdfsRules$Rows" "overfull" "Z", .fieldLink RX3 9 "RdfsRules$Rows" "subjects" "[I", .fieldLink RX3 15 "RdfsRules$Rows" "properties" "[I", .fieldLink RX3 18 "RdfsRules$Rows" "objects" "[I", .fieldLink RX3 21 "RdfsRules$Rows" "rules" "[I", .fieldLink RX3 24 "RdfsRules$Rows" "firsts" "[I", .fieldLink RX3 27 "RdfsRules$Rows" "seconds" "[I", .fieldLink RX3 30 "RdfsRules$Rows" "rounds" "[I", .methodLink RX3 57 yX3_slotOf, .instanceMethod yX3_slotOf, .selects RX3 yX3_slotOf yX3_slotOf, .initialized RX3, .code yX3_slotOf cX3_slotOf 7 (some .int), .constant RX3 61 (-1640531527)] ++ wsX30)
def wsX0_appendTo_r1 : List Cond := [Cond.methodLink RX0 22 yX0_size, Cond.instanceMethod yX0_size, Cond.selects RX0 yX0_size yX0_size, Cond.initialized RX0, Cond.code yX0_size cX0_size 1 (some .int), Cond.fieldLink RX0 9 "RdfsRules$Axioms" "asked" "Z", Cond.methodLink RX0 42 yX0_memberships, Cond.instanceMethod yX0_memberships, Cond.selects RX0 yX0_memberships yX0_memberships, Cond.code yX0_memberships cX0_memberships 1 (some .int), Cond.fieldLink RX0 19 "RdfsRules$Axioms" "membershipsBelong" "Z", Cond.fieldLink RX0 15 "RdfsRules$Axioms" "count" "I", Cond.methodLink RX0 26 yX0_subject, Cond.instanceMethod yX0_subject, Cond.selects RX0 yX0_subject yX0_subject, Cond.code yX0_subject cX0_subject 2 (some .int), Cond.fieldLink RX0 45 "RdfsRules$Axioms" "FIXED" "[I", Cond.methodLink RX0 30 yX0_property, Cond.instanceMethod yX0_property, Cond.selects RX0 yX0_property yX0_property, Cond.code yX0_property cX0_property 2 (some .int), Cond.fieldLink RX0 49 "RdfsRules$Axioms" "OF_MEMBERSHIP" "[I", Cond.methodLink RX0 33 yX0_object, Cond.instanceMethod yX0_object]
def wsX0_appendTo_r2 : List Cond := [Cond.selects RX0 yX0_object yX0_object, Cond.code yX0_object cX0_object 2 (some .int), Cond.methodLink RX0 36 yX3_addNew, Cond.instanceMethod yX3_addNew, Cond.selects RX3 yX3_addNew yX3_addNew, Cond.initialized RX3, Cond.code yX3_addNew cX3_addNew 9 none, Cond.fieldLink RX3 33 "RdfsRules$Rows" "rowAtSlot" "[I", Cond.fieldLink RX3 40 "RdfsRules$Rows" "size" "I", Cond.fieldLink RX3 44 "RdfsRules$Rows" "overfull" "Z", Cond.fieldLink RX3 9 "RdfsRules$Rows" "subjects" "[I", Cond.fieldLink RX3 15 "RdfsRules$Rows" "properties" "[I", Cond.fieldLink RX3 18 "RdfsRules$Rows" "objects" "[I", Cond.fieldLink RX3 21 "RdfsRules$Rows" "rules" "[I", Cond.fieldLink RX3 24 "RdfsRules$Rows" "firsts" "[I", Cond.fieldLink RX3 27 "RdfsRules$Rows" "seconds" "[I", Cond.fieldLink RX3 30 "RdfsRules$Rows" "rounds" "[I", Cond.methodLink RX3 57 yX3_slotOf, Cond.instanceMethod yX3_slotOf, Cond.selects RX3 yX3_slotOf yX3_slotOf, Cond.code yX3_slotOf cX3_slotOf 7 (some .int), Cond.constant RX3 61 (-1640531527)]
def wsX0_appendTo : List Cond := .code yX0_appendTo cX0_appendTo 4 none :: ((wsX0_appendTo_r1 ++ wsX0_appendTo_r2) ++ wsX00 ++ wsX30)
def wsX1_init : List Cond := .code yX1_init cX1_init 1 none :: ([.methodLink RX1 3 objectInit, .instanceMethod objectInit, .code objectInit ⟨#[0xb1]⟩ 1 none, .arrayClass .int, .fieldLink RX1 9 "RdfsRules$GivenFacts" "subjects" "[I", .fieldLink RX1 15 "RdfsRules$GivenFacts" "properties" "[I", .fieldLink RX1 18 "RdfsRules$GivenFacts" "objects" "[I", .fieldLink RX1 21 "RdfsRules$GivenFacts" "size" "I"] ++ wsX10)
def wsX1_size : List Cond := .code yX1_size cX1_size 1 (some .int) :: ([.fieldLink RX1 21 "RdfsRules$GivenFacts" "size" "I"] ++ wsX10)
def wsX1_placeOf : List Cond := .code yX1_placeOf cX1_placeOf 5 (some .int) :: ([.fieldLink RX1 21 "RdfsRules$GivenFacts" "size" "I", .fieldLink RX1 9 "RdfsRules$GivenFacts" "subjects" "[I", .fieldLink RX1 15 "RdfsRules$GivenFacts" "properties" "[I", .fieldLink RX1 18 "RdfsRules$GivenFacts" "objects" "[I"] ++ wsX10)
def wsX1_append : List Cond := .code yX1_append cX1_append 4 none :: ([.fieldLink RX1 9 "RdfsRules$GivenFacts" "subjects" "[I", .fieldLink RX1 21 "RdfsRules$GivenFacts" "size" "I", .fieldLink RX1 15 "RdfsRules$GivenFacts" "properties" "[I", .fieldLink RX1 18 "RdfsRules$GivenFacts" "objects" "[I"] ++ wsX10)
def wsX1_dropAt : List Cond := .code yX1_dropAt cX1_dropAt 3 none :: ([.fieldLink RX1 21 "RdfsRules$GivenFacts" "size" "I", .fieldLink RX1 9 "RdfsRules$GivenFacts" "subjects" "[I", .fieldLink RX1 15 "RdfsRules$GivenFacts" "properties" "[I", .fieldLink RX1 18 "RdfsRules$GivenFacts" "objects" "[I"] ++ wsX10)
def wsX1_appendTo : List Cond := .code yX1_appendTo cX1_appendTo 3 none :: ([.fieldLink RX1 21 "RdfsRules$GivenFacts" "size" "I", .fieldLink RX1 9 "RdfsRules$GivenFacts" "subjects" "[I", .fieldLink RX1 15 "RdfsRules$GivenFacts" "properties" "[I", .fieldLink RX1 18 "RdfsRules$GivenFacts" "objects" "[I", .methodLink RX1 25 yX3_addNew, .instanceMethod yX3_addNew, .selects RX3 yX3_addNew yX3_addNew, .initialized RX3, .code yX3_addNew cX3_addNew 9 none, .fieldLink RX3 33 "RdfsRules$Rows" "rowAtSlot" "[I", .fieldLink RX3 40 "RdfsRules$Rows" "size" "I", .fieldLink RX3 44 "RdfsRules$Rows" "overfull" "Z", .fieldLink RX3 9 "RdfsRules$Rows" "subjects" "[I", .fieldLink RX3 15 "RdfsRules$Rows" "properties" "[I", .fieldLink RX3 18 "RdfsRules$Rows" "objects" "[I", .fieldLink RX3 21 "RdfsRules$Rows" "rules" "[I", .fieldLink RX3 24 "RdfsRules$Rows" "firsts" "[I", .fieldLink RX3 27 "RdfsRules$Rows" "seconds" "[I", .fieldLink RX3 30 "RdfsRules$Rows" "rounds" "[I", .methodLink RX3 57 yX3_slotOf, .instanceMethod yX3_slotOf, .selects RX3 yX3_slotOf yX3_slotOf, .code yX3_slotOf cX3_slotOf 7 (some .int), .constant RX3 61 (-1640531527)] ++ wsX10 ++ wsX30)
def wsX2_init : List Cond := .code yX2_init cX2_init 3 none :: ([.methodLink RX2 3 objectInit, .instanceMethod objectInit, .code objectInit ⟨#[0xb1]⟩ 1 none, .fieldLink RX2 9 "RdfsRules$Reasoner" "spent" "I", .fieldLink RX2 15 "RdfsRules$Reasoner" "end" "I", .fieldLink RX2 18 "RdfsRules$Reasoner" "round" "I", .fieldLink RX2 21 "RdfsRules$Reasoner" "maker" "I", .fieldLink RX2 24 "RdfsRules$Reasoner" "first" "I", .fieldLink RX2 27 "RdfsRules$Reasoner" "second" "I", .fieldLink RX2 30 "RdfsRules$Reasoner" "terms" "LRdfsRules$Terms;", .fieldLink RX2 34 "RdfsRules$Reasoner" "rows" "LRdfsRules$Rows;"] ++ wsX20)
def wsX3_size : List Cond := .code yX3_size cX3_size 1 (some .int) :: ([.fieldLink RX3 40 "RdfsRules$Rows" "size" "I"] ++ wsX30)
def wsX3_isOverfull : List Cond := .code yX3_isOverfull cX3_isOverfull 1 (some .boolean) :: ([.fieldLink RX3 44 "RdfsRules$Rows" "overfull" "Z"] ++ wsX30)
def wsX2_firstProperty : List Cond := .code yX2_firstProperty cX2_firstProperty 1 (some .int) :: ([.fieldLink RX2 21 "RdfsRules$Reasoner" "maker" "I"] ++ wsX20)
def wsX4_isLiteral : List Cond := .code yX4_isLiteral cX4_isLiteral 2 (some .boolean) :: ([.fieldLink RX4 15 "RdfsRules$Terms" "literals" "I"] ++ wsX40)
def wsX4_typeOf : List Cond := .code yX4_typeOf cX4_typeOf 2 (some .int) :: ([.fieldLink RX4 9 "RdfsRules$Terms" "literalTypes" "[I", .methodLink RX4 23 yX4_isLiteral, .instanceMethod yX4_isLiteral, .selects RX4 yX4_isLiteral yX4_isLiteral, .initialized RX4, .code yX4_isLiteral cX4_isLiteral 2 (some .boolean), .fieldLink RX4 15 "RdfsRules$Terms" "literals" "I"] ++ wsX40)
def wsX2_make_r1 : List Cond := [Cond.fieldLink RX2 34 "RdfsRules$Reasoner" "rows" "LRdfsRules$Rows;", Cond.fieldLink RX2 21 "RdfsRules$Reasoner" "maker" "I", Cond.fieldLink RX2 24 "RdfsRules$Reasoner" "first" "I", Cond.fieldLink RX2 27 "RdfsRules$Reasoner" "second" "I", Cond.fieldLink RX2 18 "RdfsRules$Reasoner" "round" "I", Cond.methodLink RX2 92 yX3_addNew, Cond.instanceMethod yX3_addNew, Cond.selects RX3 yX3_addNew yX3_addNew, Cond.initialized RX3, Cond.code yX3_addNew cX3_addNew 9 none, Cond.fieldLink RX3 33 "RdfsRules$Rows" "rowAtSlot" "[I", Cond.fieldLink RX3 40 "RdfsRules$Rows" "size" "I", Cond.fieldLink RX3 44 "RdfsRules$Rows" "overfull" "Z", Cond.fieldLink RX3 9 "RdfsRules$Rows" "subjects" "[I", Cond.fieldLink RX3 15 "RdfsRules$Rows" "properties" "[I", Cond.fieldLink RX3 18 "RdfsRules$Rows" "objects" "[I", Cond.fieldLink RX3 21 "RdfsRules$Rows" "rules" "[I", Cond.fieldLink RX3 24 "RdfsRules$Rows" "firsts" "[I", Cond.fieldLink RX3 27 "RdfsRules$Rows" "seconds" "[I", Cond.fieldLink RX3 30 "RdfsRules$Rows" "rounds" "[I", Cond.methodLink RX3 57 yX3_slotOf, Cond.instanceMethod yX3_slotOf, Cond.selects RX3 yX3_slotOf yX3_slotOf, Cond.code yX3_slotOf cX3_slotOf 7 (some .int)]
def wsX2_make_r2 : List Cond := [Cond.constant RX3 61 (-1640531527)]
def wsX2_make : List Cond := .code yX2_make cX2_make 4 none :: ((wsX2_make_r1 ++ wsX2_make_r2) ++ wsX20 ++ wsX30)
def wsX2_makeOfOne_r1 : List Cond := [Cond.fieldLink RX2 21 "RdfsRules$Reasoner" "maker" "I", Cond.fieldLink RX2 30 "RdfsRules$Reasoner" "terms" "LRdfsRules$Terms;", Cond.methodLink RX2 79 yX4_isLiteral, Cond.instanceMethod yX4_isLiteral, Cond.selects RX4 yX4_isLiteral yX4_isLiteral, Cond.initialized RX4, Cond.code yX4_isLiteral cX4_isLiteral 2 (some .boolean), Cond.fieldLink RX4 15 "RdfsRules$Terms" "literals" "I", Cond.methodLink RX2 85 yX4_typeOf, Cond.instanceMethod yX4_typeOf, Cond.selects RX4 yX4_typeOf yX4_typeOf, Cond.code yX4_typeOf cX4_typeOf 2 (some .int), Cond.fieldLink RX4 9 "RdfsRules$Terms" "literalTypes" "[I", Cond.methodLink RX4 23 yX4_isLiteral, Cond.methodLink RX2 89 yX2_make, Cond.instanceMethod yX2_make, Cond.selects RX2 yX2_make yX2_make, Cond.initialized RX2, Cond.code yX2_make cX2_make 4 none, Cond.fieldLink RX2 34 "RdfsRules$Reasoner" "rows" "LRdfsRules$Rows;", Cond.fieldLink RX2 24 "RdfsRules$Reasoner" "first" "I", Cond.fieldLink RX2 27 "RdfsRules$Reasoner" "second" "I", Cond.fieldLink RX2 18 "RdfsRules$Reasoner" "round" "I", Cond.methodLink RX2 92 yX3_addNew]
def wsX2_makeOfOne_r2 : List Cond := [Cond.instanceMethod yX3_addNew, Cond.selects RX3 yX3_addNew yX3_addNew, Cond.initialized RX3, Cond.code yX3_addNew cX3_addNew 9 none, Cond.fieldLink RX3 33 "RdfsRules$Rows" "rowAtSlot" "[I", Cond.fieldLink RX3 40 "RdfsRules$Rows" "size" "I", Cond.fieldLink RX3 44 "RdfsRules$Rows" "overfull" "Z", Cond.fieldLink RX3 9 "RdfsRules$Rows" "subjects" "[I", Cond.fieldLink RX3 15 "RdfsRules$Rows" "properties" "[I", Cond.fieldLink RX3 18 "RdfsRules$Rows" "objects" "[I", Cond.fieldLink RX3 21 "RdfsRules$Rows" "rules" "[I", Cond.fieldLink RX3 24 "RdfsRules$Rows" "firsts" "[I", Cond.fieldLink RX3 27 "RdfsRules$Rows" "seconds" "[I", Cond.fieldLink RX3 30 "RdfsRules$Rows" "rounds" "[I", Cond.methodLink RX3 57 yX3_slotOf, Cond.instanceMethod yX3_slotOf, Cond.selects RX3 yX3_slotOf yX3_slotOf, Cond.code yX3_slotOf cX3_slotOf 7 (some .int), Cond.constant RX3 61 (-1640531527)]
def wsX2_makeOfOne : List Cond := .code yX2_makeOfOne cX2_makeOfOne 4 none :: ((wsX2_makeOfOne_r1 ++ wsX2_makeOfOne_r2) ++ wsX20 ++ wsX40 ++ wsX30)
def wsX2_applyToSingles_r1 : List Cond := [Cond.fieldLink RX2 27 "RdfsRules$Reasoner" "second" "I", Cond.fieldLink RX2 9 "RdfsRules$Reasoner" "spent" "I", Cond.fieldLink RX2 15 "RdfsRules$Reasoner" "end" "I", Cond.fieldLink RX2 24 "RdfsRules$Reasoner" "first" "I", Cond.fieldLink RX2 34 "RdfsRules$Reasoner" "rows" "LRdfsRules$Rows;", Cond.fieldLink RX2 57 "RdfsRules$Rows" "subjects" "[I", Cond.fieldLink RX2 64 "RdfsRules$Rows" "properties" "[I", Cond.fieldLink RX2 61 "RdfsRules$Rows" "objects" "[I", Cond.methodLink RX2 67 yX2_makeOfOne, Cond.instanceMethod yX2_makeOfOne, Cond.selects RX2 yX2_makeOfOne yX2_makeOfOne, Cond.initialized RX2, Cond.code yX2_makeOfOne cX2_makeOfOne 4 none, Cond.fieldLink RX2 21 "RdfsRules$Reasoner" "maker" "I", Cond.fieldLink RX2 30 "RdfsRules$Reasoner" "terms" "LRdfsRules$Terms;", Cond.methodLink RX2 79 yX4_isLiteral, Cond.instanceMethod yX4_isLiteral, Cond.selects RX4 yX4_isLiteral yX4_isLiteral, Cond.initialized RX4, Cond.code yX4_isLiteral cX4_isLiteral 2 (some .boolean), Cond.fieldLink RX4 15 "RdfsRules$Terms" "literals" "I", Cond.methodLink RX2 85 yX4_typeOf, Cond.instanceMethod yX4_typeOf, Cond.selects RX4 yX4_typeOf yX4_typeOf]
def wsX2_applyToSingles_r2 : List Cond := [Cond.code yX4_typeOf cX4_typeOf 2 (some .int), Cond.fieldLink RX4 9 "RdfsRules$Terms" "literalTypes" "[I", Cond.methodLink RX4 23 yX4_isLiteral, Cond.methodLink RX2 89 yX2_make, Cond.instanceMethod yX2_make, Cond.selects RX2 yX2_make yX2_make, Cond.code yX2_make cX2_make 4 none, Cond.fieldLink RX2 18 "RdfsRules$Reasoner" "round" "I", Cond.methodLink RX2 92 yX3_addNew, Cond.instanceMethod yX3_addNew, Cond.selects RX3 yX3_addNew yX3_addNew, Cond.initialized RX3, Cond.code yX3_addNew cX3_addNew 9 none, Cond.fieldLink RX3 33 "RdfsRules$Rows" "rowAtSlot" "[I", Cond.fieldLink RX3 40 "RdfsRules$Rows" "size" "I", Cond.fieldLink RX3 44 "RdfsRules$Rows" "overfull" "Z", Cond.fieldLink RX3 9 "RdfsRules$Rows" "subjects" "[I", Cond.fieldLink RX3 15 "RdfsRules$Rows" "properties" "[I", Cond.fieldLink RX3 18 "RdfsRules$Rows" "objects" "[I", Cond.fieldLink RX3 21 "RdfsRules$Rows" "rules" "[I", Cond.fieldLink RX3 24 "RdfsRules$Rows" "firsts" "[I", Cond.fieldLink RX3 27 "RdfsRules$Rows" "seconds" "[I", Cond.fieldLink RX3 30 "RdfsRules$Rows" "rounds" "[I", Cond.methodLink RX3 57 yX3_slotOf]
def wsX2_applyToSingles_r3 : List Cond := [Cond.instanceMethod yX3_slotOf, Cond.selects RX3 yX3_slotOf yX3_slotOf, Cond.code yX3_slotOf cX3_slotOf 7 (some .int), Cond.constant RX3 61 (-1640531527)]
def wsX2_applyToSingles : List Cond := .code yX2_applyToSingles cX2_applyToSingles 2 none :: ((wsX2_applyToSingles_r1 ++ (wsX2_applyToSingles_r2 ++ wsX2_applyToSingles_r3)) ++ wsX20 ++ wsX30 ++ wsX40)
def wsX2_settledParts : List Cond := .code yX2_settledParts cX2_settledParts 1 (some (.array .int)) :: ([.fieldLink RX2 21 "RdfsRules$Reasoner" "maker" "I", .fieldLink RX2 34 "RdfsRules$Reasoner" "rows" "LRdfsRules$Rows;", .fieldLink RX2 57 "RdfsRules$Rows" "subjects" "[I", .fieldLink RX2 61 "RdfsRules$Rows" "objects" "[I", .fieldLink RX2 64 "RdfsRules$Rows" "properties" "[I"] ++ wsX20 ++ wsX30)
def wsX2_makeOfTwo_r1 : List Cond := [Cond.fieldLink RX2 21 "RdfsRules$Reasoner" "maker" "I", Cond.fieldLink RX2 30 "RdfsRules$Reasoner" "terms" "LRdfsRules$Terms;", Cond.methodLink RX2 89 yX2_make, Cond.instanceMethod yX2_make, Cond.selects RX2 yX2_make yX2_make, Cond.initialized RX2, Cond.code yX2_make cX2_make 4 none, Cond.fieldLink RX2 34 "RdfsRules$Reasoner" "rows" "LRdfsRules$Rows;", Cond.fieldLink RX2 24 "RdfsRules$Reasoner" "first" "I", Cond.fieldLink RX2 27 "RdfsRules$Reasoner" "second" "I", Cond.fieldLink RX2 18 "RdfsRules$Reasoner" "round" "I", Cond.methodLink RX2 92 yX3_addNew, Cond.instanceMethod yX3_addNew, Cond.selects RX3 yX3_addNew yX3_addNew, Cond.initialized RX3, Cond.code yX3_addNew cX3_addNew 9 none, Cond.fieldLink RX3 33 "RdfsRules$Rows" "rowAtSlot" "[I", Cond.fieldLink RX3 40 "RdfsRules$Rows" "size" "I", Cond.fieldLink RX3 44 "RdfsRules$Rows" "overfull" "Z", Cond.fieldLink RX3 9 "RdfsRules$Rows" "subjects" "[I", Cond.fieldLink RX3 15 "RdfsRules$Rows" "properties" "[I", Cond.fieldLink RX3 18 "RdfsRules$Rows" "objects" "[I", Cond.fieldLink RX3 21 "RdfsRules$Rows" "rules" "[I", Cond.fieldLink RX3 24 "RdfsRules$Rows" "firsts" "[I"]
def wsX2_makeOfTwo_r2 : List Cond := [Cond.fieldLink RX3 27 "RdfsRules$Rows" "seconds" "[I", Cond.fieldLink RX3 30 "RdfsRules$Rows" "rounds" "[I", Cond.methodLink RX3 57 yX3_slotOf, Cond.instanceMethod yX3_slotOf, Cond.selects RX3 yX3_slotOf yX3_slotOf, Cond.code yX3_slotOf cX3_slotOf 7 (some .int), Cond.constant RX3 61 (-1640531527), Cond.methodLink RX2 79 yX4_isLiteral, Cond.instanceMethod yX4_isLiteral, Cond.selects RX4 yX4_isLiteral yX4_isLiteral, Cond.initialized RX4, Cond.code yX4_isLiteral cX4_isLiteral 2 (some .boolean), Cond.fieldLink RX4 15 "RdfsRules$Terms" "literals" "I"]
def wsX2_makeOfTwo : List Cond := .code yX2_makeOfTwo cX2_makeOfTwo 6 none :: ((wsX2_makeOfTwo_r1 ++ wsX2_makeOfTwo_r2) ++ wsX20 ++ wsX30 ++ wsX40)
def wsX2_applyToPairs_r1 : List Cond := [Cond.fieldLink RX2 15 "RdfsRules$Reasoner" "end" "I", Cond.fieldLink RX2 34 "RdfsRules$Reasoner" "rows" "LRdfsRules$Rows;", Cond.fieldLink RX2 64 "RdfsRules$Rows" "properties" "[I", Cond.fieldLink RX2 24 "RdfsRules$Reasoner" "first" "I", Cond.fieldLink RX2 57 "RdfsRules$Rows" "subjects" "[I", Cond.fieldLink RX2 61 "RdfsRules$Rows" "objects" "[I", Cond.fieldLink RX2 21 "RdfsRules$Reasoner" "maker" "I", Cond.fieldLink RX2 9 "RdfsRules$Reasoner" "spent" "I", Cond.fieldLink RX2 27 "RdfsRules$Reasoner" "second" "I", Cond.methodLink RX2 48 yX2_firstProperty, Cond.instanceMethod yX2_firstProperty, Cond.selects RX2 yX2_firstProperty yX2_firstProperty, Cond.initialized RX2, Cond.code yX2_firstProperty cX2_firstProperty 1 (some .int), Cond.methodLink RX2 71 yX2_settledParts, Cond.instanceMethod yX2_settledParts, Cond.selects RX2 yX2_settledParts yX2_settledParts, Cond.code yX2_settledParts cX2_settledParts 1 (some (.array .int)), Cond.methodLink RX2 75 yX2_makeOfTwo, Cond.instanceMethod yX2_makeOfTwo, Cond.selects RX2 yX2_makeOfTwo yX2_makeOfTwo, Cond.code yX2_makeOfTwo cX2_makeOfTwo 6 none, Cond.fieldLink RX2 30 "RdfsRules$Reasoner" "terms" "LRdfsRules$Terms;", Cond.methodLink RX2 89 yX2_make]
def wsX2_applyToPairs_r2 : List Cond := [Cond.instanceMethod yX2_make, Cond.selects RX2 yX2_make yX2_make, Cond.code yX2_make cX2_make 4 none, Cond.fieldLink RX2 18 "RdfsRules$Reasoner" "round" "I", Cond.methodLink RX2 92 yX3_addNew, Cond.instanceMethod yX3_addNew, Cond.selects RX3 yX3_addNew yX3_addNew, Cond.initialized RX3, Cond.code yX3_addNew cX3_addNew 9 none, Cond.fieldLink RX3 33 "RdfsRules$Rows" "rowAtSlot" "[I", Cond.fieldLink RX3 40 "RdfsRules$Rows" "size" "I", Cond.fieldLink RX3 44 "RdfsRules$Rows" "overfull" "Z", Cond.fieldLink RX3 9 "RdfsRules$Rows" "subjects" "[I", Cond.fieldLink RX3 15 "RdfsRules$Rows" "properties" "[I", Cond.fieldLink RX3 18 "RdfsRules$Rows" "objects" "[I", Cond.fieldLink RX3 21 "RdfsRules$Rows" "rules" "[I", Cond.fieldLink RX3 24 "RdfsRules$Rows" "firsts" "[I", Cond.fieldLink RX3 27 "RdfsRules$Rows" "seconds" "[I", Cond.fieldLink RX3 30 "RdfsRules$Rows" "rounds" "[I", Cond.methodLink RX3 57 yX3_slotOf, Cond.instanceMethod yX3_slotOf, Cond.selects RX3 yX3_slotOf yX3_slotOf, Cond.code yX3_slotOf cX3_slotOf 7 (some .int), Cond.constant RX3 61 (-1640531527)]
def wsX2_applyToPairs_r3 : List Cond := [Cond.methodLink RX2 79 yX4_isLiteral, Cond.instanceMethod yX4_isLiteral, Cond.selects RX4 yX4_isLiteral yX4_isLiteral, Cond.initialized RX4, Cond.code yX4_isLiteral cX4_isLiteral 2 (some .boolean), Cond.fieldLink RX4 15 "RdfsRules$Terms" "literals" "I"]
def wsX2_applyToPairs : List Cond := .code yX2_applyToPairs cX2_applyToPairs 8 none :: ((wsX2_applyToPairs_r1 ++ (wsX2_applyToPairs_r2 ++ wsX2_applyToPairs_r3)) ++ wsX20 ++ wsX30 ++ wsX40)
def wsX2_close_r1 : List Cond := [Cond.fieldLink RX2 34 "RdfsRules$Reasoner" "rows" "LRdfsRules$Rows;", Cond.fieldLink RX2 9 "RdfsRules$Reasoner" "spent" "I", Cond.fieldLink RX2 18 "RdfsRules$Reasoner" "round" "I", Cond.fieldLink RX2 15 "RdfsRules$Reasoner" "end" "I", Cond.fieldLink RX2 21 "RdfsRules$Reasoner" "maker" "I", Cond.methodLink RX2 38 yX3_size, Cond.instanceMethod yX3_size, Cond.selects RX3 yX3_size yX3_size, Cond.initialized RX3, Cond.code yX3_size cX3_size 1 (some .int), Cond.fieldLink RX3 40 "RdfsRules$Rows" "size" "I", Cond.methodLink RX2 44 yX3_isOverfull, Cond.instanceMethod yX3_isOverfull, Cond.selects RX3 yX3_isOverfull yX3_isOverfull, Cond.code yX3_isOverfull cX3_isOverfull 1 (some .boolean), Cond.fieldLink RX3 44 "RdfsRules$Rows" "overfull" "Z", Cond.methodLink RX2 48 yX2_firstProperty, Cond.instanceMethod yX2_firstProperty, Cond.selects RX2 yX2_firstProperty yX2_firstProperty, Cond.initialized RX2, Cond.code yX2_firstProperty cX2_firstProperty 1 (some .int), Cond.methodLink RX2 51 yX2_applyToSingles, Cond.instanceMethod yX2_applyToSingles, Cond.selects RX2 yX2_applyToSingles yX2_applyToSingles]
def wsX2_close_r2 : List Cond := [Cond.code yX2_applyToSingles cX2_applyToSingles 2 none, Cond.fieldLink RX2 27 "RdfsRules$Reasoner" "second" "I", Cond.fieldLink RX2 24 "RdfsRules$Reasoner" "first" "I", Cond.fieldLink RX2 57 "RdfsRules$Rows" "subjects" "[I", Cond.fieldLink RX2 64 "RdfsRules$Rows" "properties" "[I", Cond.fieldLink RX2 61 "RdfsRules$Rows" "objects" "[I", Cond.methodLink RX2 67 yX2_makeOfOne, Cond.instanceMethod yX2_makeOfOne, Cond.selects RX2 yX2_makeOfOne yX2_makeOfOne, Cond.code yX2_makeOfOne cX2_makeOfOne 4 none, Cond.fieldLink RX2 30 "RdfsRules$Reasoner" "terms" "LRdfsRules$Terms;", Cond.methodLink RX2 79 yX4_isLiteral, Cond.instanceMethod yX4_isLiteral, Cond.selects RX4 yX4_isLiteral yX4_isLiteral, Cond.initialized RX4, Cond.code yX4_isLiteral cX4_isLiteral 2 (some .boolean), Cond.fieldLink RX4 15 "RdfsRules$Terms" "literals" "I", Cond.methodLink RX2 85 yX4_typeOf, Cond.instanceMethod yX4_typeOf, Cond.selects RX4 yX4_typeOf yX4_typeOf, Cond.code yX4_typeOf cX4_typeOf 2 (some .int), Cond.fieldLink RX4 9 "RdfsRules$Terms" "literalTypes" "[I", Cond.methodLink RX4 23 yX4_isLiteral, Cond.methodLink RX2 89 yX2_make]
def wsX2_close_r3 : List Cond := [Cond.instanceMethod yX2_make, Cond.selects RX2 yX2_make yX2_make, Cond.code yX2_make cX2_make 4 none, Cond.methodLink RX2 92 yX3_addNew, Cond.instanceMethod yX3_addNew, Cond.selects RX3 yX3_addNew yX3_addNew, Cond.code yX3_addNew cX3_addNew 9 none, Cond.fieldLink RX3 33 "RdfsRules$Rows" "rowAtSlot" "[I", Cond.fieldLink RX3 9 "RdfsRules$Rows" "subjects" "[I", Cond.fieldLink RX3 15 "RdfsRules$Rows" "properties" "[I", Cond.fieldLink RX3 18 "RdfsRules$Rows" "objects" "[I", Cond.fieldLink RX3 21 "RdfsRules$Rows" "rules" "[I", Cond.fieldLink RX3 24 "RdfsRules$Rows" "firsts" "[I", Cond.fieldLink RX3 27 "RdfsRules$Rows" "seconds" "[I", Cond.fieldLink RX3 30 "RdfsRules$Rows" "rounds" "[I", Cond.methodLink RX3 57 yX3_slotOf, Cond.instanceMethod yX3_slotOf, Cond.selects RX3 yX3_slotOf yX3_slotOf, Cond.code yX3_slotOf cX3_slotOf 7 (some .int), Cond.constant RX3 61 (-1640531527), Cond.methodLink RX2 54 yX2_applyToPairs, Cond.instanceMethod yX2_applyToPairs, Cond.selects RX2 yX2_applyToPairs yX2_applyToPairs, Cond.code yX2_applyToPairs cX2_applyToPairs 8 none]
def wsX2_close_r4 : List Cond := [Cond.methodLink RX2 71 yX2_settledParts, Cond.instanceMethod yX2_settledParts, Cond.selects RX2 yX2_settledParts yX2_settledParts, Cond.code yX2_settledParts cX2_settledParts 1 (some (.array .int)), Cond.methodLink RX2 75 yX2_makeOfTwo, Cond.instanceMethod yX2_makeOfTwo, Cond.selects RX2 yX2_makeOfTwo yX2_makeOfTwo, Cond.code yX2_makeOfTwo cX2_makeOfTwo 6 none]
def wsX2_close : List Cond := .code yX2_close cX2_close 4 (some .int) :: ((wsX2_close_r1 ++ (wsX2_close_r2 ++ (wsX2_close_r3 ++ wsX2_close_r4))) ++ wsX20 ++ wsX30 ++ wsX40)
def wsJ7_fill_53178 : List Cond := .code yJ7_fill_53178 cJ7_fill_53178 4 none :: ([])
def wsX3_init : List Cond := .code yX3_init cX3_init 1 none :: ([.methodLink RX3 3 objectInit, .instanceMethod objectInit, .code objectInit ⟨#[0xb1]⟩ 1 none, .arrayClass .int, .fieldLink RX3 9 "RdfsRules$Rows" "subjects" "[I", .fieldLink RX3 15 "RdfsRules$Rows" "properties" "[I", .fieldLink RX3 18 "RdfsRules$Rows" "objects" "[I", .fieldLink RX3 21 "RdfsRules$Rows" "rules" "[I", .fieldLink RX3 24 "RdfsRules$Rows" "firsts" "[I", .fieldLink RX3 27 "RdfsRules$Rows" "seconds" "[I", .fieldLink RX3 30 "RdfsRules$Rows" "rounds" "[I", .fieldLink RX3 33 "RdfsRules$Rows" "rowAtSlot" "[I", .arrayClass .boolean, .fieldLink RX3 36 "RdfsRules$Rows" "rests" "[Z", .fieldLink RX3 40 "RdfsRules$Rows" "size" "I", .fieldLink RX3 44 "RdfsRules$Rows" "overfull" "Z", .fieldLink RX3 48 "RdfsRules$Rows" "axiomMemberships" "I", .methodLink RX3 51 yJ7_fill_53178, .static yJ7_fill_53178, .initialized RJ7, .code yJ7_fill_53178 cJ7_fill_53178 4 none] ++ wsX30)
def wsX3_restart : List Cond := .code yX3_restart cX3_restart 2 none :: ([.fieldLink RX3 33 "RdfsRules$Rows" "rowAtSlot" "[I", .fieldLink RX3 40 "RdfsRules$Rows" "size" "I", .fieldLink RX3 44 "RdfsRules$Rows" "overfull" "Z", .fieldLink RX3 48 "RdfsRules$Rows" "axiomMemberships" "I", .methodLink RX3 51 yJ7_fill_53178, .static yJ7_fill_53178, .initialized RJ7, .code yJ7_fill_53178 cJ7_fill_53178 4 none] ++ wsX30)
def wsX3_isRow : List Cond := .code yX3_isRow cX3_isRow 2 (some .boolean) :: ([.fieldLink RX3 40 "RdfsRules$Rows" "size" "I"] ++ wsX30)
def wsX3_rowOf : List Cond := .code yX3_rowOf cX3_rowOf 4 (some .int) :: ([.fieldLink RX3 33 "RdfsRules$Rows" "rowAtSlot" "[I", .methodLink RX3 57 yX3_slotOf, .instanceMethod yX3_slotOf, .selects RX3 yX3_slotOf yX3_slotOf, .initialized RX3, .code yX3_slotOf cX3_slotOf 7 (some .int), .constant RX3 61 (-1640531527), .fieldLink RX3 9 "RdfsRules$Rows" "subjects" "[I", .fieldLink RX3 15 "RdfsRules$Rows" "properties" "[I", .fieldLink RX3 18 "RdfsRules$Rows" "objects" "[I"] ++ wsX30)
def wsX3_part : List Cond := .code yX3_part cX3_part 3 (some .int) :: ([.fieldLink RX3 9 "RdfsRules$Rows" "subjects" "[I", .fieldLink RX3 15 "RdfsRules$Rows" "properties" "[I", .fieldLink RX3 18 "RdfsRules$Rows" "objects" "[I", .fieldLink RX3 21 "RdfsRules$Rows" "rules" "[I", .fieldLink RX3 24 "RdfsRules$Rows" "firsts" "[I", .fieldLink RX3 27 "RdfsRules$Rows" "seconds" "[I", .fieldLink RX3 30 "RdfsRules$Rows" "rounds" "[I"] ++ wsX30)
def wsX3_markIfRow : List Cond := .code yX3_markIfRow cX3_markIfRow 2 none :: ([.fieldLink RX3 36 "RdfsRules$Rows" "rests" "[Z"] ++ wsX30)
def wsX3_markRest : List Cond := .code yX3_markRest cX3_markRest 3 none :: ([.fieldLink RX3 36 "RdfsRules$Rows" "rests" "[Z", .fieldLink RX3 24 "RdfsRules$Rows" "firsts" "[I", .fieldLink RX3 27 "RdfsRules$Rows" "seconds" "[I", .methodLink RX3 66 yX3_markIfRow, .instanceMethod yX3_markIfRow, .selects RX3 yX3_markIfRow yX3_markIfRow, .initialized RX3, .code yX3_markIfRow cX3_markIfRow 2 none] ++ wsX30)
def wsX3_restSize : List Cond := .code yX3_restSize cX3_restSize 4 (some .int) :: ([.fieldLink RX3 36 "RdfsRules$Rows" "rests" "[Z", .methodLink RX3 62 yX3_markRest, .instanceMethod yX3_markRest, .selects RX3 yX3_markRest yX3_markRest, .initialized RX3, .code yX3_markRest cX3_markRest 3 none, .fieldLink RX3 24 "RdfsRules$Rows" "firsts" "[I", .fieldLink RX3 27 "RdfsRules$Rows" "seconds" "[I", .methodLink RX3 66 yX3_markIfRow, .instanceMethod yX3_markIfRow, .selects RX3 yX3_markIfRow yX3_markIfRow, .code yX3_markIfRow cX3_markIfRow 2 none] ++ wsX30)
def wsX3_restMember : List Cond := .code yX3_restMember cX3_restMember 5 (some .int) :: ([.fieldLink RX3 36 "RdfsRules$Rows" "rests" "[Z", .methodLink RX3 62 yX3_markRest, .instanceMethod yX3_markRest, .selects RX3 yX3_markRest yX3_markRest, .initialized RX3, .code yX3_markRest cX3_markRest 3 none, .fieldLink RX3 24 "RdfsRules$Rows" "firsts" "[I", .fieldLink RX3 27 "RdfsRules$Rows" "seconds" "[I", .methodLink RX3 66 yX3_markIfRow, .instanceMethod yX3_markIfRow, .selects RX3 yX3_markIfRow yX3_markIfRow, .code yX3_markIfRow cX3_markIfRow 2 none] ++ wsX30)
def wsX3_madeBy : List Cond := .code yX3_madeBy cX3_madeBy 4 (some .int) :: ([.fieldLink RX3 40 "RdfsRules$Rows" "size" "I", .fieldLink RX3 21 "RdfsRules$Rows" "rules" "[I"] ++ wsX30)
def wsX3_literalSubjects : List Cond := .code yX3_literalSubjects cX3_literalSubjects 3 (some .int) :: ([.fieldLink RX3 40 "RdfsRules$Rows" "size" "I", .fieldLink RX3 9 "RdfsRules$Rows" "subjects" "[I"] ++ wsX30)
def wsX3_membershipsBeyondAxioms : List Cond := .code yX3_membershipsBeyondAxioms cX3_membershipsBeyondAxioms 3 (some .int) :: ([.fieldLink RX3 40 "RdfsRules$Rows" "size" "I", .fieldLink RX3 15 "RdfsRules$Rows" "properties" "[I", .fieldLink RX3 48 "RdfsRules$Rows" "axiomMemberships" "I"] ++ wsX30)
def wsX4_init : List Cond := .code yX4_init cX4_init 1 none :: ([.methodLink RX4 3 objectInit, .instanceMethod objectInit, .code objectInit ⟨#[0xb1]⟩ 1 none, .arrayClass .int, .fieldLink RX4 9 "RdfsRules$Terms" "literalTypes" "[I", .fieldLink RX4 15 "RdfsRules$Terms" "literals" "I"] ++ wsX40)
def wsX4_literals : List Cond := .code yX4_literals cX4_literals 1 (some .int) :: ([.fieldLink RX4 15 "RdfsRules$Terms" "literals" "I"] ++ wsX40)
def wsX4_isNonLiteral : List Cond := .code yX4_isNonLiteral cX4_isNonLiteral 2 (some .boolean) :: ([])
def wsX4_isTerm : List Cond := .code yX4_isTerm cX4_isTerm 2 (some .boolean) :: ([.methodLink RX4 19 yX4_isNonLiteral, .instanceMethod yX4_isNonLiteral, .selects RX4 yX4_isNonLiteral yX4_isNonLiteral, .initialized RX4, .code yX4_isNonLiteral cX4_isNonLiteral 2 (some .boolean), .methodLink RX4 23 yX4_isLiteral, .instanceMethod yX4_isLiteral, .selects RX4 yX4_isLiteral yX4_isLiteral, .code yX4_isLiteral cX4_isLiteral 2 (some .boolean), .fieldLink RX4 15 "RdfsRules$Terms" "literals" "I"] ++ wsX40)
def wsX4_addLiteral : List Cond := .code yX4_addLiteral cX4_addLiteral 2 (some .int) :: ([.fieldLink RX4 9 "RdfsRules$Terms" "literalTypes" "[I", .fieldLink RX4 15 "RdfsRules$Terms" "literals" "I"] ++ wsX40)
def wsX5_init_r1 : List Cond := [Cond.methodLink RX5 1 objectInit, Cond.instanceMethod objectInit, Cond.code objectInit ⟨#[0xb1]⟩ 1 none, Cond.classLink RX5 7 RX4, Cond.instantiable RX4 2, Cond.initialized RX4, Cond.fieldLink RX5 10 "RdfsRules" "terms" "LRdfsRules$Terms;", Cond.classLink RX5 16 RX1, Cond.instantiable RX1 4, Cond.initialized RX1, Cond.fieldLink RX5 19 "RdfsRules" "given" "LRdfsRules$GivenFacts;", Cond.classLink RX5 23 RX0, Cond.instantiable RX0 3, Cond.initialized RX0, Cond.fieldLink RX5 28 "RdfsRules" "axiomSet" "LRdfsRules$Axioms;", Cond.classLink RX5 32 RX3, Cond.instantiable RX3 12, Cond.initialized RX3, Cond.fieldLink RX5 35 "RdfsRules" "latest" "LRdfsRules$Rows;", Cond.fieldLink RX5 39 "RdfsRules" "spare" "LRdfsRules$Rows;", Cond.classLink RX5 42 RX2, Cond.instantiable RX2 8, Cond.initialized RX2, Cond.fieldLink RX5 47 "RdfsRules" "reasoner" "LRdfsRules$Reasoner;"]
def wsX5_init_r2 : List Cond := [Cond.instanceMethod yX4_init, Cond.code yX4_init cX4_init 1 none, Cond.methodLink RX4 3 objectInit, Cond.arrayClass .int, Cond.fieldLink RX4 9 "RdfsRules$Terms" "literalTypes" "[I", Cond.fieldLink RX4 15 "RdfsRules$Terms" "literals" "I", Cond.instanceMethod yX1_init, Cond.code yX1_init cX1_init 1 none, Cond.methodLink RX1 3 objectInit, Cond.fieldLink RX1 9 "RdfsRules$GivenFacts" "subjects" "[I", Cond.fieldLink RX1 15 "RdfsRules$GivenFacts" "properties" "[I", Cond.fieldLink RX1 18 "RdfsRules$GivenFacts" "objects" "[I", Cond.fieldLink RX1 21 "RdfsRules$GivenFacts" "size" "I", Cond.methodLink RX5 25 yX0_init, Cond.instanceMethod yX0_init, Cond.code yX0_init cX0_init 2 none, Cond.methodLink RX0 3 objectInit, Cond.fieldLink RX0 9 "RdfsRules$Axioms" "asked" "Z", Cond.fieldLink RX0 15 "RdfsRules$Axioms" "count" "I", Cond.fieldLink RX0 19 "RdfsRules$Axioms" "membershipsBelong" "Z", Cond.methodLink RX5 34 yX3_init, Cond.instanceMethod yX3_init, Cond.code yX3_init cX3_init 1 none, Cond.methodLink RX3 3 objectInit]
def wsX5_init_r3 : List Cond := [Cond.fieldLink RX3 9 "RdfsRules$Rows" "subjects" "[I", Cond.fieldLink RX3 15 "RdfsRules$Rows" "properties" "[I", Cond.fieldLink RX3 18 "RdfsRules$Rows" "objects" "[I", Cond.fieldLink RX3 21 "RdfsRules$Rows" "rules" "[I", Cond.fieldLink RX3 24 "RdfsRules$Rows" "firsts" "[I", Cond.fieldLink RX3 27 "RdfsRules$Rows" "seconds" "[I", Cond.fieldLink RX3 30 "RdfsRules$Rows" "rounds" "[I", Cond.fieldLink RX3 33 "RdfsRules$Rows" "rowAtSlot" "[I", Cond.arrayClass .boolean, Cond.fieldLink RX3 36 "RdfsRules$Rows" "rests" "[Z", Cond.fieldLink RX3 40 "RdfsRules$Rows" "size" "I", Cond.fieldLink RX3 44 "RdfsRules$Rows" "overfull" "Z", Cond.fieldLink RX3 48 "RdfsRules$Rows" "axiomMemberships" "I", Cond.methodLink RX3 51 yJ7_fill_53178, Cond.static yJ7_fill_53178, Cond.initialized RJ7, Cond.code yJ7_fill_53178 cJ7_fill_53178 4 none, Cond.methodLink RX5 44 yX2_init, Cond.instanceMethod yX2_init, Cond.code yX2_init cX2_init 3 none, Cond.methodLink RX2 3 objectInit, Cond.fieldLink RX2 9 "RdfsRules$Reasoner" "spent" "I", Cond.fieldLink RX2 15 "RdfsRules$Reasoner" "end" "I", Cond.fieldLink RX2 18 "RdfsRules$Reasoner" "round" "I"]
def wsX5_init_r4 : List Cond := [Cond.fieldLink RX2 21 "RdfsRules$Reasoner" "maker" "I", Cond.fieldLink RX2 24 "RdfsRules$Reasoner" "first" "I", Cond.fieldLink RX2 27 "RdfsRules$Reasoner" "second" "I", Cond.fieldLink RX2 30 "RdfsRules$Reasoner" "terms" "LRdfsRules$Terms;", Cond.fieldLink RX2 34 "RdfsRules$Reasoner" "rows" "LRdfsRules$Rows;"]
def wsX5_init : List Cond := .code yX5_init cX5_init 2 none :: ((wsX5_init_r1 ++ (wsX5_init_r2 ++ (wsX5_init_r3 ++ wsX5_init_r4))) ++ wsX40 ++ wsX50 ++ wsX10 ++ wsX00 ++ wsX30 ++ wsX20)
def wsX5_literal : List Cond := .code yX5_literal cX5_literal 2 (some .int) :: ([.classLink RX5 55 "java/lang/IllegalArgumentException", .initialized "java/lang/IllegalArgumentException", .classLink RX5 66 "java/lang/IllegalStateException", .initialized "java/lang/IllegalStateException", .fieldLink RX5 10 "RdfsRules" "terms" "LRdfsRules$Terms;", .methodLink RX5 51 yX4_isNonLiteral, .instanceMethod yX4_isNonLiteral, .selects RX4 yX4_isNonLiteral yX4_isNonLiteral, .initialized RX4, .code yX4_isNonLiteral cX4_isNonLiteral 2 (some .boolean), .methodLink RX5 62 yX4_literals, .instanceMethod yX4_literals, .selects RX4 yX4_literals yX4_literals, .code yX4_literals cX4_literals 1 (some .int), .fieldLink RX4 15 "RdfsRules$Terms" "literals" "I", .methodLink RX5 71 yX4_addLiteral, .instanceMethod yX4_addLiteral, .selects RX4 yX4_addLiteral yX4_addLiteral, .code yX4_addLiteral cX4_addLiteral 2 (some .int), .fieldLink RX4 9 "RdfsRules$Terms" "literalTypes" "[I"] ++ wsX50 ++ wsX40 ++ (vx_atS RX5 59 "java/lang/IllegalArgumentException" ["java/lang/RuntimeException", "java/lang/Exception"]).filter goodWord ++ (vx_atS RX5 70 "java/lang/IllegalStateException" ["java/lang/RuntimeException", "java/lang/Exception"]).filter goodWord)
def wsX5_mayBeFact : List Cond := .code yX5_mayBeFact cX5_mayBeFact 4 (some .boolean) :: ([.fieldLink RX5 10 "RdfsRules" "terms" "LRdfsRules$Terms;", .methodLink RX5 51 yX4_isNonLiteral, .instanceMethod yX4_isNonLiteral, .selects RX4 yX4_isNonLiteral yX4_isNonLiteral, .initialized RX4, .code yX4_isNonLiteral cX4_isNonLiteral 2 (some .boolean), .methodLink RX5 163 yX4_isTerm, .instanceMethod yX4_isTerm, .selects RX4 yX4_isTerm yX4_isTerm, .code yX4_isTerm cX4_isTerm 2 (some .boolean), .methodLink RX4 19 yX4_isNonLiteral, .methodLink RX4 23 yX4_isLiteral, .instanceMethod yX4_isLiteral, .selects RX4 yX4_isLiteral yX4_isLiteral, .code yX4_isLiteral cX4_isLiteral 2 (some .boolean), .fieldLink RX4 15 "RdfsRules$Terms" "literals" "I"] ++ wsX50 ++ wsX40)
def wsX5_triple_r1 : List Cond := [Cond.classLink RX5 55 "java/lang/IllegalArgumentException", Cond.initialized "java/lang/IllegalArgumentException", Cond.classLink RX5 66 "java/lang/IllegalStateException", Cond.initialized "java/lang/IllegalStateException", Cond.fieldLink RX5 19 "RdfsRules" "given" "LRdfsRules$GivenFacts;", Cond.methodLink RX5 75 yX5_mayBeFact, Cond.instanceMethod yX5_mayBeFact, Cond.selects RX5 yX5_mayBeFact yX5_mayBeFact, Cond.initialized RX5, Cond.code yX5_mayBeFact cX5_mayBeFact 4 (some .boolean), Cond.fieldLink RX5 10 "RdfsRules" "terms" "LRdfsRules$Terms;", Cond.methodLink RX5 51 yX4_isNonLiteral, Cond.instanceMethod yX4_isNonLiteral, Cond.selects RX4 yX4_isNonLiteral yX4_isNonLiteral, Cond.initialized RX4, Cond.code yX4_isNonLiteral cX4_isNonLiteral 2 (some .boolean), Cond.methodLink RX5 163 yX4_isTerm, Cond.instanceMethod yX4_isTerm, Cond.selects RX4 yX4_isTerm yX4_isTerm, Cond.code yX4_isTerm cX4_isTerm 2 (some .boolean), Cond.methodLink RX4 19 yX4_isNonLiteral, Cond.methodLink RX4 23 yX4_isLiteral, Cond.instanceMethod yX4_isLiteral, Cond.selects RX4 yX4_isLiteral yX4_isLiteral]
def wsX5_triple_r2 : List Cond := [Cond.code yX4_isLiteral cX4_isLiteral 2 (some .boolean), Cond.fieldLink RX4 15 "RdfsRules$Terms" "literals" "I", Cond.methodLink RX5 81 yX1_placeOf, Cond.instanceMethod yX1_placeOf, Cond.selects RX1 yX1_placeOf yX1_placeOf, Cond.initialized RX1, Cond.code yX1_placeOf cX1_placeOf 5 (some .int), Cond.fieldLink RX1 21 "RdfsRules$GivenFacts" "size" "I", Cond.fieldLink RX1 9 "RdfsRules$GivenFacts" "subjects" "[I", Cond.fieldLink RX1 15 "RdfsRules$GivenFacts" "properties" "[I", Cond.fieldLink RX1 18 "RdfsRules$GivenFacts" "objects" "[I", Cond.methodLink RX5 85 yX1_size, Cond.instanceMethod yX1_size, Cond.selects RX1 yX1_size yX1_size, Cond.code yX1_size cX1_size 1 (some .int), Cond.methodLink RX5 90 yX1_append, Cond.instanceMethod yX1_append, Cond.selects RX1 yX1_append yX1_append, Cond.code yX1_append cX1_append 4 none]
def wsX5_triple : List Cond := .code yX5_triple cX5_triple 4 (some .int) :: ((wsX5_triple_r1 ++ wsX5_triple_r2) ++ wsX50 ++ wsX40 ++ wsX10 ++ (vx_atS RX5 59 "java/lang/IllegalArgumentException" ["java/lang/RuntimeException", "java/lang/Exception"]).filter goodWord ++ (vx_atS RX5 70 "java/lang/IllegalStateException" ["java/lang/RuntimeException", "java/lang/Exception"]).filter goodWord)
def wsX5_remove_r1 : List Cond := [Cond.classLink RX5 55 "java/lang/IllegalArgumentException", Cond.initialized "java/lang/IllegalArgumentException", Cond.fieldLink RX5 19 "RdfsRules" "given" "LRdfsRules$GivenFacts;", Cond.fieldLink RX5 28 "RdfsRules" "axiomSet" "LRdfsRules$Axioms;", Cond.methodLink RX5 75 yX5_mayBeFact, Cond.instanceMethod yX5_mayBeFact, Cond.selects RX5 yX5_mayBeFact yX5_mayBeFact, Cond.initialized RX5, Cond.code yX5_mayBeFact cX5_mayBeFact 4 (some .boolean), Cond.fieldLink RX5 10 "RdfsRules" "terms" "LRdfsRules$Terms;", Cond.methodLink RX5 51 yX4_isNonLiteral, Cond.instanceMethod yX4_isNonLiteral, Cond.selects RX4 yX4_isNonLiteral yX4_isNonLiteral, Cond.initialized RX4, Cond.code yX4_isNonLiteral cX4_isNonLiteral 2 (some .boolean), Cond.methodLink RX5 163 yX4_isTerm, Cond.instanceMethod yX4_isTerm, Cond.selects RX4 yX4_isTerm yX4_isTerm, Cond.code yX4_isTerm cX4_isTerm 2 (some .boolean), Cond.methodLink RX4 19 yX4_isNonLiteral, Cond.methodLink RX4 23 yX4_isLiteral, Cond.instanceMethod yX4_isLiteral, Cond.selects RX4 yX4_isLiteral yX4_isLiteral, Cond.code yX4_isLiteral cX4_isLiteral 2 (some .boolean)]
def wsX5_remove_r2 : List Cond := [Cond.fieldLink RX4 15 "RdfsRules$Terms" "literals" "I", Cond.methodLink RX5 81 yX1_placeOf, Cond.instanceMethod yX1_placeOf, Cond.selects RX1 yX1_placeOf yX1_placeOf, Cond.initialized RX1, Cond.code yX1_placeOf cX1_placeOf 5 (some .int), Cond.fieldLink RX1 21 "RdfsRules$GivenFacts" "size" "I", Cond.fieldLink RX1 9 "RdfsRules$GivenFacts" "subjects" "[I", Cond.fieldLink RX1 15 "RdfsRules$GivenFacts" "properties" "[I", Cond.fieldLink RX1 18 "RdfsRules$GivenFacts" "objects" "[I", Cond.methodLink RX5 94 yX1_dropAt, Cond.instanceMethod yX1_dropAt, Cond.selects RX1 yX1_dropAt yX1_dropAt, Cond.code yX1_dropAt cX1_dropAt 3 none, Cond.methodLink RX5 98 yX0_contains, Cond.instanceMethod yX0_contains, Cond.selects RX0 yX0_contains yX0_contains, Cond.initialized RX0, Cond.code yX0_contains cX0_contains 6 (some .boolean), Cond.methodLink RX0 22 yX0_size, Cond.instanceMethod yX0_size, Cond.selects RX0 yX0_size yX0_size, Cond.code yX0_size cX0_size 1 (some .int), Cond.fieldLink RX0 9 "RdfsRules$Axioms" "asked" "Z"]
def wsX5_remove_r3 : List Cond := [Cond.methodLink RX0 42 yX0_memberships, Cond.instanceMethod yX0_memberships, Cond.selects RX0 yX0_memberships yX0_memberships, Cond.code yX0_memberships cX0_memberships 1 (some .int), Cond.fieldLink RX0 19 "RdfsRules$Axioms" "membershipsBelong" "Z", Cond.fieldLink RX0 15 "RdfsRules$Axioms" "count" "I", Cond.methodLink RX0 26 yX0_subject, Cond.instanceMethod yX0_subject, Cond.selects RX0 yX0_subject yX0_subject, Cond.code yX0_subject cX0_subject 2 (some .int), Cond.fieldLink RX0 45 "RdfsRules$Axioms" "FIXED" "[I", Cond.methodLink RX0 30 yX0_property, Cond.instanceMethod yX0_property, Cond.selects RX0 yX0_property yX0_property, Cond.code yX0_property cX0_property 2 (some .int), Cond.fieldLink RX0 49 "RdfsRules$Axioms" "OF_MEMBERSHIP" "[I", Cond.methodLink RX0 33 yX0_object, Cond.instanceMethod yX0_object, Cond.selects RX0 yX0_object yX0_object, Cond.code yX0_object cX0_object 2 (some .int)]
def wsX5_remove : List Cond := .code yX5_remove cX5_remove 5 (some .int) :: ((wsX5_remove_r1 ++ (wsX5_remove_r2 ++ wsX5_remove_r3)) ++ wsX50 ++ wsX40 ++ wsX10 ++ wsX00 ++ (vx_atS RX5 59 "java/lang/IllegalArgumentException" ["java/lang/RuntimeException", "java/lang/Exception"]).filter goodWord)
def wsX5_axioms : List Cond := .code yX5_axioms cX5_axioms 2 none :: ([.fieldLink RX5 28 "RdfsRules" "axiomSet" "LRdfsRules$Axioms;", .methodLink RX5 101 yX0_ask, .instanceMethod yX0_ask, .selects RX0 yX0_ask yX0_ask, .initialized RX0, .code yX0_ask cX0_ask 2 none, .fieldLink RX0 9 "RdfsRules$Axioms" "asked" "Z"] ++ wsX50 ++ wsX00)
def wsX5_count : List Cond := .code yX5_count cX5_count 2 none :: ([.classLink RX5 55 "java/lang/IllegalArgumentException", .initialized "java/lang/IllegalArgumentException", .fieldLink RX5 28 "RdfsRules" "axiomSet" "LRdfsRules$Axioms;", .methodLink RX5 106 yX0_setCount, .instanceMethod yX0_setCount, .selects RX0 yX0_setCount yX0_setCount, .initialized RX0, .code yX0_setCount cX0_setCount 2 none, .fieldLink RX0 15 "RdfsRules$Axioms" "count" "I"] ++ wsX50 ++ wsX00 ++ (vx_atS RX5 59 "java/lang/IllegalArgumentException" ["java/lang/RuntimeException", "java/lang/Exception"]).filter goodWord)
def wsX5_run_r1 : List Cond := [Cond.classLink RX5 124 "java/lang/UnsupportedOperationException", Cond.initialized "java/lang/UnsupportedOperationException", Cond.fieldLink RX5 39 "RdfsRules" "spare" "LRdfsRules$Rows;", Cond.fieldLink RX5 28 "RdfsRules" "axiomSet" "LRdfsRules$Axioms;", Cond.fieldLink RX5 19 "RdfsRules" "given" "LRdfsRules$GivenFacts;", Cond.fieldLink RX5 47 "RdfsRules" "reasoner" "LRdfsRules$Reasoner;", Cond.fieldLink RX5 35 "RdfsRules" "latest" "LRdfsRules$Rows;", Cond.methodLink RX5 109 yX0_memberships, Cond.instanceMethod yX0_memberships, Cond.selects RX0 yX0_memberships yX0_memberships, Cond.initialized RX0, Cond.code yX0_memberships cX0_memberships 1 (some .int), Cond.fieldLink RX0 9 "RdfsRules$Axioms" "asked" "Z", Cond.fieldLink RX0 19 "RdfsRules$Axioms" "membershipsBelong" "Z", Cond.fieldLink RX0 15 "RdfsRules$Axioms" "count" "I", Cond.methodLink RX5 112 yX3_restart, Cond.instanceMethod yX3_restart, Cond.selects RX3 yX3_restart yX3_restart, Cond.initialized RX3, Cond.code yX3_restart cX3_restart 2 none, Cond.fieldLink RX3 33 "RdfsRules$Rows" "rowAtSlot" "[I", Cond.fieldLink RX3 40 "RdfsRules$Rows" "size" "I", Cond.fieldLink RX3 44 "RdfsRules$Rows" "overfull" "Z", Cond.fieldLink RX3 48 "RdfsRules$Rows" "axiomMemberships" "I"]
def wsX5_run_r2 : List Cond := [Cond.methodLink RX3 51 yJ7_fill_53178, Cond.static yJ7_fill_53178, Cond.initialized RJ7, Cond.code yJ7_fill_53178 cJ7_fill_53178 4 none, Cond.methodLink RX5 115 yX0_appendTo, Cond.instanceMethod yX0_appendTo, Cond.selects RX0 yX0_appendTo yX0_appendTo, Cond.code yX0_appendTo cX0_appendTo 4 none, Cond.methodLink RX0 22 yX0_size, Cond.instanceMethod yX0_size, Cond.selects RX0 yX0_size yX0_size, Cond.code yX0_size cX0_size 1 (some .int), Cond.methodLink RX0 42 yX0_memberships, Cond.methodLink RX0 26 yX0_subject, Cond.instanceMethod yX0_subject, Cond.selects RX0 yX0_subject yX0_subject, Cond.code yX0_subject cX0_subject 2 (some .int), Cond.fieldLink RX0 45 "RdfsRules$Axioms" "FIXED" "[I", Cond.methodLink RX0 30 yX0_property, Cond.instanceMethod yX0_property, Cond.selects RX0 yX0_property yX0_property, Cond.code yX0_property cX0_property 2 (some .int), Cond.fieldLink RX0 49 "RdfsRules$Axioms" "OF_MEMBERSHIP" "[I", Cond.methodLink RX0 33 yX0_object]
def wsX5_run_r3 : List Cond := [Cond.instanceMethod yX0_object, Cond.selects RX0 yX0_object yX0_object, Cond.code yX0_object cX0_object 2 (some .int), Cond.methodLink RX0 36 yX3_addNew, Cond.instanceMethod yX3_addNew, Cond.selects RX3 yX3_addNew yX3_addNew, Cond.code yX3_addNew cX3_addNew 9 none, Cond.fieldLink RX3 9 "RdfsRules$Rows" "subjects" "[I", Cond.fieldLink RX3 15 "RdfsRules$Rows" "properties" "[I", Cond.fieldLink RX3 18 "RdfsRules$Rows" "objects" "[I", Cond.fieldLink RX3 21 "RdfsRules$Rows" "rules" "[I", Cond.fieldLink RX3 24 "RdfsRules$Rows" "firsts" "[I", Cond.fieldLink RX3 27 "RdfsRules$Rows" "seconds" "[I", Cond.fieldLink RX3 30 "RdfsRules$Rows" "rounds" "[I", Cond.methodLink RX3 57 yX3_slotOf, Cond.instanceMethod yX3_slotOf, Cond.selects RX3 yX3_slotOf yX3_slotOf, Cond.code yX3_slotOf cX3_slotOf 7 (some .int), Cond.constant RX3 61 (-1640531527), Cond.methodLink RX5 119 yX1_appendTo, Cond.instanceMethod yX1_appendTo, Cond.selects RX1 yX1_appendTo yX1_appendTo, Cond.initialized RX1, Cond.code yX1_appendTo cX1_appendTo 3 none]
def wsX5_run_r4 : List Cond := [Cond.fieldLink RX1 21 "RdfsRules$GivenFacts" "size" "I", Cond.fieldLink RX1 9 "RdfsRules$GivenFacts" "subjects" "[I", Cond.fieldLink RX1 15 "RdfsRules$GivenFacts" "properties" "[I", Cond.fieldLink RX1 18 "RdfsRules$GivenFacts" "objects" "[I", Cond.methodLink RX1 25 yX3_addNew, Cond.methodLink RX5 120 yX2_close, Cond.instanceMethod yX2_close, Cond.selects RX2 yX2_close yX2_close, Cond.initialized RX2, Cond.code yX2_close cX2_close 4 (some .int), Cond.fieldLink RX2 34 "RdfsRules$Reasoner" "rows" "LRdfsRules$Rows;", Cond.fieldLink RX2 9 "RdfsRules$Reasoner" "spent" "I", Cond.fieldLink RX2 18 "RdfsRules$Reasoner" "round" "I", Cond.fieldLink RX2 15 "RdfsRules$Reasoner" "end" "I", Cond.fieldLink RX2 21 "RdfsRules$Reasoner" "maker" "I", Cond.methodLink RX2 38 yX3_size, Cond.instanceMethod yX3_size, Cond.selects RX3 yX3_size yX3_size, Cond.code yX3_size cX3_size 1 (some .int), Cond.methodLink RX2 44 yX3_isOverfull, Cond.instanceMethod yX3_isOverfull, Cond.selects RX3 yX3_isOverfull yX3_isOverfull, Cond.code yX3_isOverfull cX3_isOverfull 1 (some .boolean), Cond.methodLink RX2 48 yX2_firstProperty]
def wsX5_run_r5 : List Cond := [Cond.instanceMethod yX2_firstProperty, Cond.selects RX2 yX2_firstProperty yX2_firstProperty, Cond.code yX2_firstProperty cX2_firstProperty 1 (some .int), Cond.methodLink RX2 51 yX2_applyToSingles, Cond.instanceMethod yX2_applyToSingles, Cond.selects RX2 yX2_applyToSingles yX2_applyToSingles, Cond.code yX2_applyToSingles cX2_applyToSingles 2 none, Cond.fieldLink RX2 27 "RdfsRules$Reasoner" "second" "I", Cond.fieldLink RX2 24 "RdfsRules$Reasoner" "first" "I", Cond.fieldLink RX2 57 "RdfsRules$Rows" "subjects" "[I", Cond.fieldLink RX2 64 "RdfsRules$Rows" "properties" "[I", Cond.fieldLink RX2 61 "RdfsRules$Rows" "objects" "[I", Cond.methodLink RX2 67 yX2_makeOfOne, Cond.instanceMethod yX2_makeOfOne, Cond.selects RX2 yX2_makeOfOne yX2_makeOfOne, Cond.code yX2_makeOfOne cX2_makeOfOne 4 none, Cond.fieldLink RX2 30 "RdfsRules$Reasoner" "terms" "LRdfsRules$Terms;", Cond.methodLink RX2 79 yX4_isLiteral, Cond.instanceMethod yX4_isLiteral, Cond.selects RX4 yX4_isLiteral yX4_isLiteral, Cond.initialized RX4, Cond.code yX4_isLiteral cX4_isLiteral 2 (some .boolean), Cond.fieldLink RX4 15 "RdfsRules$Terms" "literals" "I", Cond.methodLink RX2 85 yX4_typeOf]
def wsX5_run_r6 : List Cond := [Cond.instanceMethod yX4_typeOf, Cond.selects RX4 yX4_typeOf yX4_typeOf, Cond.code yX4_typeOf cX4_typeOf 2 (some .int), Cond.fieldLink RX4 9 "RdfsRules$Terms" "literalTypes" "[I", Cond.methodLink RX4 23 yX4_isLiteral, Cond.methodLink RX2 89 yX2_make, Cond.instanceMethod yX2_make, Cond.selects RX2 yX2_make yX2_make, Cond.code yX2_make cX2_make 4 none, Cond.methodLink RX2 92 yX3_addNew, Cond.methodLink RX2 54 yX2_applyToPairs, Cond.instanceMethod yX2_applyToPairs, Cond.selects RX2 yX2_applyToPairs yX2_applyToPairs, Cond.code yX2_applyToPairs cX2_applyToPairs 8 none, Cond.methodLink RX2 71 yX2_settledParts, Cond.instanceMethod yX2_settledParts, Cond.selects RX2 yX2_settledParts yX2_settledParts, Cond.code yX2_settledParts cX2_settledParts 1 (some (.array .int)), Cond.methodLink RX2 75 yX2_makeOfTwo, Cond.instanceMethod yX2_makeOfTwo, Cond.selects RX2 yX2_makeOfTwo yX2_makeOfTwo, Cond.code yX2_makeOfTwo cX2_makeOfTwo 6 none]
def wsX5_run : List Cond := .code yX5_run cX5_run 3 (some .int) :: ((wsX5_run_r1 ++ (wsX5_run_r2 ++ (wsX5_run_r3 ++ (wsX5_run_r4 ++ (wsX5_run_r5 ++ wsX5_run_r6))))) ++ wsX50 ++ wsX00 ++ wsX30 ++ wsX10 ++ wsX20 ++ wsX40 ++ (vx_atS RX5 128 "java/lang/UnsupportedOperationException" ["java/lang/RuntimeException", "java/lang/Exception"]).filter goodWord)
def wsX5_closed : List Cond := .code yX5_closed cX5_closed 3 (some .int) :: ([.classLink RX5 55 "java/lang/IllegalArgumentException", .initialized "java/lang/IllegalArgumentException", .fieldLink RX5 35 "RdfsRules" "latest" "LRdfsRules$Rows;", .methodLink RX5 129 yX3_isRow, .instanceMethod yX3_isRow, .selects RX3 yX3_isRow yX3_isRow, .initialized RX3, .code yX3_isRow cX3_isRow 2 (some .boolean), .fieldLink RX3 40 "RdfsRules$Rows" "size" "I", .methodLink RX5 134 yX3_part, .instanceMethod yX3_part, .selects RX3 yX3_part yX3_part, .code yX3_part cX3_part 3 (some .int), .fieldLink RX3 9 "RdfsRules$Rows" "subjects" "[I", .fieldLink RX3 15 "RdfsRules$Rows" "properties" "[I", .fieldLink RX3 18 "RdfsRules$Rows" "objects" "[I", .fieldLink RX3 21 "RdfsRules$Rows" "rules" "[I", .fieldLink RX3 24 "RdfsRules$Rows" "firsts" "[I", .fieldLink RX3 27 "RdfsRules$Rows" "seconds" "[I", .fieldLink RX3 30 "RdfsRules$Rows" "rounds" "[I"] ++ wsX50 ++ wsX30 ++ (vx_atS RX5 59 "java/lang/IllegalArgumentException" ["java/lang/RuntimeException", "java/lang/Exception"]).filter goodWord)
def wsX5_find : List Cond := .code yX5_find cX5_find 4 (some .int) :: ([.fieldLink RX5 35 "RdfsRules" "latest" "LRdfsRules$Rows;", .methodLink RX5 138 yX3_rowOf, .instanceMethod yX3_rowOf, .selects RX3 yX3_rowOf yX3_rowOf, .initialized RX3, .code yX3_rowOf cX3_rowOf 4 (some .int), .fieldLink RX3 33 "RdfsRules$Rows" "rowAtSlot" "[I", .methodLink RX3 57 yX3_slotOf, .instanceMethod yX3_slotOf, .selects RX3 yX3_slotOf yX3_slotOf, .code yX3_slotOf cX3_slotOf 7 (some .int), .constant RX3 61 (-1640531527), .fieldLink RX3 9 "RdfsRules$Rows" "subjects" "[I", .fieldLink RX3 15 "RdfsRules$Rows" "properties" "[I", .fieldLink RX3 18 "RdfsRules$Rows" "objects" "[I"] ++ wsX50 ++ wsX30)
def wsX5_trace : List Cond := .code yX5_trace cX5_trace 2 (some .int) :: ([.classLink RX5 55 "java/lang/IllegalArgumentException", .initialized "java/lang/IllegalArgumentException", .fieldLink RX5 35 "RdfsRules" "latest" "LRdfsRules$Rows;", .methodLink RX5 129 yX3_isRow, .instanceMethod yX3_isRow, .selects RX3 yX3_isRow yX3_isRow, .initialized RX3, .code yX3_isRow cX3_isRow 2 (some .boolean), .fieldLink RX3 40 "RdfsRules$Rows" "size" "I", .methodLink RX5 143 yX3_restSize, .instanceMethod yX3_restSize, .selects RX3 yX3_restSize yX3_restSize, .code yX3_restSize cX3_restSize 4 (some .int), .fieldLink RX3 36 "RdfsRules$Rows" "rests" "[Z", .methodLink RX3 62 yX3_markRest, .instanceMethod yX3_markRest, .selects RX3 yX3_markRest yX3_markRest, .code yX3_markRest cX3_markRest 3 none, .fieldLink RX3 24 "RdfsRules$Rows" "firsts" "[I", .fieldLink RX3 27 "RdfsRules$Rows" "seconds" "[I", .methodLink RX3 66 yX3_markIfRow, .instanceMethod yX3_markIfRow, .selects RX3 yX3_markIfRow yX3_markIfRow, .code yX3_markIfRow cX3_markIfRow 2 none] ++ wsX50 ++ wsX30 ++ (vx_atS RX5 59 "java/lang/IllegalArgumentException" ["java/lang/RuntimeException", "java/lang/Exception"]).filter goodWord)
def wsX5_proof : List Cond := .code yX5_proof cX5_proof 3 (some .int) :: ([.classLink RX5 55 "java/lang/IllegalArgumentException", .initialized "java/lang/IllegalArgumentException", .fieldLink RX5 35 "RdfsRules" "latest" "LRdfsRules$Rows;", .methodLink RX5 129 yX3_isRow, .instanceMethod yX3_isRow, .selects RX3 yX3_isRow yX3_isRow, .initialized RX3, .code yX3_isRow cX3_isRow 2 (some .boolean), .fieldLink RX3 40 "RdfsRules$Rows" "size" "I", .methodLink RX5 146 yX3_restMember, .instanceMethod yX3_restMember, .selects RX3 yX3_restMember yX3_restMember, .code yX3_restMember cX3_restMember 5 (some .int), .fieldLink RX3 36 "RdfsRules$Rows" "rests" "[Z", .methodLink RX3 62 yX3_markRest, .instanceMethod yX3_markRest, .selects RX3 yX3_markRest yX3_markRest, .code yX3_markRest cX3_markRest 3 none, .fieldLink RX3 24 "RdfsRules$Rows" "firsts" "[I", .fieldLink RX3 27 "RdfsRules$Rows" "seconds" "[I", .methodLink RX3 66 yX3_markIfRow, .instanceMethod yX3_markIfRow, .selects RX3 yX3_markIfRow yX3_markIfRow, .code yX3_markIfRow cX3_markIfRow 2 none] ++ wsX50 ++ wsX30 ++ (vx_atS RX5 59 "java/lang/IllegalArgumentException" ["java/lang/RuntimeException", "java/lang/Exception"]).filter goodWord)
def wsX5_rule : List Cond := .code yX5_rule cX5_rule 2 (some .int) :: ([.classLink RX5 55 "java/lang/IllegalArgumentException", .initialized "java/lang/IllegalArgumentException", .fieldLink RX5 35 "RdfsRules" "latest" "LRdfsRules$Rows;", .methodLink RX5 151 yX3_madeBy, .instanceMethod yX3_madeBy, .selects RX3 yX3_madeBy yX3_madeBy, .initialized RX3, .code yX3_madeBy cX3_madeBy 4 (some .int), .fieldLink RX3 40 "RdfsRules$Rows" "size" "I", .fieldLink RX3 21 "RdfsRules$Rows" "rules" "[I"] ++ wsX50 ++ wsX30 ++ (vx_atS RX5 59 "java/lang/IllegalArgumentException" ["java/lang/RuntimeException", "java/lang/Exception"]).filter goodWord)
def wsX5_told_r1 : List Cond := [Cond.classLink RX5 55 "java/lang/IllegalArgumentException", Cond.initialized "java/lang/IllegalArgumentException", Cond.fieldLink RX5 35 "RdfsRules" "latest" "LRdfsRules$Rows;", Cond.fieldLink RX5 19 "RdfsRules" "given" "LRdfsRules$GivenFacts;", Cond.fieldLink RX5 10 "RdfsRules" "terms" "LRdfsRules$Terms;", Cond.methodLink RX5 154 yX3_size, Cond.instanceMethod yX3_size, Cond.selects RX3 yX3_size yX3_size, Cond.initialized RX3, Cond.code yX3_size cX3_size 1 (some .int), Cond.fieldLink RX3 40 "RdfsRules$Rows" "size" "I", Cond.methodLink RX5 85 yX1_size, Cond.instanceMethod yX1_size, Cond.selects RX1 yX1_size yX1_size, Cond.initialized RX1, Cond.code yX1_size cX1_size 1 (some .int), Cond.fieldLink RX1 21 "RdfsRules$GivenFacts" "size" "I", Cond.methodLink RX5 62 yX4_literals, Cond.instanceMethod yX4_literals, Cond.selects RX4 yX4_literals yX4_literals, Cond.initialized RX4, Cond.code yX4_literals cX4_literals 1 (some .int), Cond.fieldLink RX4 15 "RdfsRules$Terms" "literals" "I", Cond.methodLink RX5 155 yX3_literalSubjects]
def wsX5_told_r2 : List Cond := [Cond.instanceMethod yX3_literalSubjects, Cond.selects RX3 yX3_literalSubjects yX3_literalSubjects, Cond.code yX3_literalSubjects cX3_literalSubjects 3 (some .int), Cond.fieldLink RX3 9 "RdfsRules$Rows" "subjects" "[I", Cond.methodLink RX5 158 yX3_membershipsBeyondAxioms, Cond.instanceMethod yX3_membershipsBeyondAxioms, Cond.selects RX3 yX3_membershipsBeyondAxioms yX3_membershipsBeyondAxioms, Cond.code yX3_membershipsBeyondAxioms cX3_membershipsBeyondAxioms 3 (some .int), Cond.fieldLink RX3 15 "RdfsRules$Rows" "properties" "[I", Cond.fieldLink RX3 48 "RdfsRules$Rows" "axiomMemberships" "I"]
def wsX5_told : List Cond := .code yX5_told cX5_told 2 (some .int) :: ((wsX5_told_r1 ++ wsX5_told_r2) ++ wsX50 ++ wsX30 ++ wsX10 ++ wsX40 ++ (vx_atS RX5 59 "java/lang/IllegalArgumentException" ["java/lang/RuntimeException", "java/lang/Exception"]).filter goodWord)
def wsX6_init : List Cond := .code yX6_init cX6_init 2 none :: ([.methodLink RX6 1 objectInit, .instanceMethod objectInit, .code objectInit ⟨#[0xb1]⟩ 1 none, .fieldLink RX6 7 "RdfsRulesModel" "counted" "I", .arrayClass .int, .fieldLink RX6 13 "RdfsRulesModel" "facts" "[I", .fieldLink RX6 17 "RdfsRulesModel" "types" "[I", .fieldLink RX6 20 "RdfsRulesModel" "closure" "[I", .fieldLink RX6 23 "RdfsRulesModel" "fresh" "[I", .fieldLink RX6 26 "RdfsRulesModel" "places" "[I", .fieldLink RX6 29 "RdfsRulesModel" "rests" "[I", .fieldLink RX6 32 "RdfsRulesModel" "memberships" "Z"] ++ wsX60)
def wsX6_thrown : List Cond := .code yX6_thrown cX6_thrown 1 (some .int) :: ([.fieldLink RX6 36 "RdfsRulesModel" "code" "I"] ++ wsX60)
def wsX6_refuses : List Cond := .code yX6_refuses cX6_refuses 2 (some .boolean) :: ([.fieldLink RX6 36 "RdfsRulesModel" "code" "I"] ++ wsX60)
def wsX6_isLiteral : List Cond := .code yX6_isLiteral cX6_isLiteral 2 (some .boolean) :: ([.fieldLink RX6 39 "RdfsRulesModel" "literals" "I"] ++ wsX60)
def wsX6_isPlain : List Cond := .code yX6_isPlain cX6_isPlain 2 (some .boolean) :: ([])
def wsX6_literal : List Cond := .code yX6_literal cX6_literal 2 (some .int) :: ([.fieldLink RX6 39 "RdfsRulesModel" "literals" "I", .fieldLink RX6 17 "RdfsRulesModel" "types" "[I", .methodLink RX6 42 yX6_isPlain, .instanceMethod yX6_isPlain, .selects RX6 yX6_isPlain yX6_isPlain, .initialized RX6, .code yX6_isPlain cX6_isPlain 2 (some .boolean), .methodLink RX6 46 yX6_refuses, .instanceMethod yX6_refuses, .selects RX6 yX6_refuses yX6_refuses, .code yX6_refuses cX6_refuses 2 (some .boolean), .fieldLink RX6 36 "RdfsRulesModel" "code" "I"] ++ wsX60)
def wsX6_place : List Cond := .code yX6_place cX6_place 5 (some .int) :: ([.fieldLink RX6 49 "RdfsRulesModel" "given" "I", .fieldLink RX6 13 "RdfsRulesModel" "facts" "[I"] ++ wsX60)
def wsX6_isFact : List Cond := .code yX6_isFact cX6_isFact 4 (some .boolean) :: ([.methodLink RX6 42 yX6_isPlain, .instanceMethod yX6_isPlain, .selects RX6 yX6_isPlain yX6_isPlain, .initialized RX6, .code yX6_isPlain cX6_isPlain 2 (some .boolean), .methodLink RX6 52 yX6_isLiteral, .instanceMethod yX6_isLiteral, .selects RX6 yX6_isLiteral yX6_isLiteral, .code yX6_isLiteral cX6_isLiteral 2 (some .boolean), .fieldLink RX6 39 "RdfsRulesModel" "literals" "I"] ++ wsX60)
def wsX6_triple_r1 : List Cond := [Cond.fieldLink RX6 49 "RdfsRulesModel" "given" "I", Cond.fieldLink RX6 13 "RdfsRulesModel" "facts" "[I", Cond.methodLink RX6 55 yX6_place, Cond.instanceMethod yX6_place, Cond.selects RX6 yX6_place yX6_place, Cond.initialized RX6, Cond.code yX6_place cX6_place 5 (some .int), Cond.methodLink RX6 59 yX6_isFact, Cond.instanceMethod yX6_isFact, Cond.selects RX6 yX6_isFact yX6_isFact, Cond.code yX6_isFact cX6_isFact 4 (some .boolean), Cond.methodLink RX6 42 yX6_isPlain, Cond.instanceMethod yX6_isPlain, Cond.selects RX6 yX6_isPlain yX6_isPlain, Cond.code yX6_isPlain cX6_isPlain 2 (some .boolean), Cond.methodLink RX6 52 yX6_isLiteral, Cond.instanceMethod yX6_isLiteral, Cond.selects RX6 yX6_isLiteral yX6_isLiteral, Cond.code yX6_isLiteral cX6_isLiteral 2 (some .boolean), Cond.fieldLink RX6 39 "RdfsRulesModel" "literals" "I", Cond.methodLink RX6 46 yX6_refuses, Cond.instanceMethod yX6_refuses, Cond.selects RX6 yX6_refuses yX6_refuses, Cond.code yX6_refuses cX6_refuses 2 (some .boolean)]
def wsX6_triple_r2 : List Cond := [Cond.fieldLink RX6 36 "RdfsRulesModel" "code" "I"]
def wsX6_triple : List Cond := .code yX6_triple cX6_triple 5 (some .int) :: ((wsX6_triple_r1 ++ wsX6_triple_r2) ++ wsX60)
def wsX6_axiom : List Cond := .code yX6_axiom cX6_axiom 4 (some .int) :: ([.constant RX6 63 (60601), .constant RX6 64 (60703), .constant RX6 65 (70601), .constant RX6 66 (70703), .constant RX6 67 (50601), .constant RX6 68 (50701), .constant RX6 69 (40603), .constant RX6 70 (40703), .constant RX6 71 (100602), .constant RX6 72 (100702), .constant RX6 73 (110401), .constant RX6 74 (90403), .fieldLink RX6 32 "RdfsRulesModel" "memberships" "Z", .fieldLink RX6 7 "RdfsRulesModel" "counted" "I"] ++ wsX60)
def wsX6_isAxiom : List Cond := .code yX6_isAxiom cX6_isAxiom 7 (some .boolean) :: ([.fieldLink RX6 75 "RdfsRulesModel" "asked" "Z", .methodLink RX6 78 yX6_axiom, .instanceMethod yX6_axiom, .selects RX6 yX6_axiom yX6_axiom, .initialized RX6, .code yX6_axiom cX6_axiom 4 (some .int), .constant RX6 63 (60601), .constant RX6 64 (60703), .constant RX6 65 (70601), .constant RX6 66 (70703), .constant RX6 67 (50601), .constant RX6 68 (50701), .constant RX6 69 (40603), .constant RX6 70 (40703), .constant RX6 71 (100602), .constant RX6 72 (100702), .constant RX6 73 (110401), .constant RX6 74 (90403), .fieldLink RX6 32 "RdfsRulesModel" "memberships" "Z", .fieldLink RX6 7 "RdfsRulesModel" "counted" "I"] ++ wsX60)
def wsX6_remove_r1 : List Cond := [Cond.fieldLink RX6 49 "RdfsRulesModel" "given" "I", Cond.fieldLink RX6 13 "RdfsRulesModel" "facts" "[I", Cond.methodLink RX6 59 yX6_isFact, Cond.instanceMethod yX6_isFact, Cond.selects RX6 yX6_isFact yX6_isFact, Cond.initialized RX6, Cond.code yX6_isFact cX6_isFact 4 (some .boolean), Cond.methodLink RX6 42 yX6_isPlain, Cond.instanceMethod yX6_isPlain, Cond.selects RX6 yX6_isPlain yX6_isPlain, Cond.code yX6_isPlain cX6_isPlain 2 (some .boolean), Cond.methodLink RX6 52 yX6_isLiteral, Cond.instanceMethod yX6_isLiteral, Cond.selects RX6 yX6_isLiteral yX6_isLiteral, Cond.code yX6_isLiteral cX6_isLiteral 2 (some .boolean), Cond.fieldLink RX6 39 "RdfsRulesModel" "literals" "I", Cond.methodLink RX6 46 yX6_refuses, Cond.instanceMethod yX6_refuses, Cond.selects RX6 yX6_refuses yX6_refuses, Cond.code yX6_refuses cX6_refuses 2 (some .boolean), Cond.fieldLink RX6 36 "RdfsRulesModel" "code" "I", Cond.methodLink RX6 55 yX6_place, Cond.instanceMethod yX6_place, Cond.selects RX6 yX6_place yX6_place]
def wsX6_remove_r2 : List Cond := [Cond.code yX6_place cX6_place 5 (some .int), Cond.methodLink RX6 82 yX6_isAxiom, Cond.instanceMethod yX6_isAxiom, Cond.selects RX6 yX6_isAxiom yX6_isAxiom, Cond.code yX6_isAxiom cX6_isAxiom 7 (some .boolean), Cond.fieldLink RX6 75 "RdfsRulesModel" "asked" "Z", Cond.methodLink RX6 78 yX6_axiom, Cond.instanceMethod yX6_axiom, Cond.selects RX6 yX6_axiom yX6_axiom, Cond.code yX6_axiom cX6_axiom 4 (some .int), Cond.constant RX6 63 (60601), Cond.constant RX6 64 (60703), Cond.constant RX6 65 (70601), Cond.constant RX6 66 (70703), Cond.constant RX6 67 (50601), Cond.constant RX6 68 (50701), Cond.constant RX6 69 (40603), Cond.constant RX6 70 (40703), Cond.constant RX6 71 (100602), Cond.constant RX6 72 (100702), Cond.constant RX6 73 (110401), Cond.constant RX6 74 (90403), Cond.fieldLink RX6 32 "RdfsRulesModel" "memberships" "Z", Cond.fieldLink RX6 7 "RdfsRulesModel" "counted" "I"]
def wsX6_remove : List Cond := .code yX6_remove cX6_remove 6 (some .int) :: ((wsX6_remove_r1 ++ wsX6_remove_r2) ++ wsX60)
def wsX6_axioms : List Cond := .code yX6_axioms cX6_axioms 2 none :: ([.fieldLink RX6 36 "RdfsRulesModel" "code" "I", .fieldLink RX6 75 "RdfsRulesModel" "asked" "Z"] ++ wsX60)
def wsX6_count : List Cond := .code yX6_count cX6_count 2 none :: ([.fieldLink RX6 7 "RdfsRulesModel" "counted" "I", .methodLink RX6 46 yX6_refuses, .instanceMethod yX6_refuses, .selects RX6 yX6_refuses yX6_refuses, .initialized RX6, .code yX6_refuses cX6_refuses 2 (some .boolean), .fieldLink RX6 36 "RdfsRulesModel" "code" "I"] ++ wsX60)
def wsX6_slot : List Cond := .code yX6_slot cX6_slot 5 (some .int) :: ([.fieldLink RX6 26 "RdfsRulesModel" "places" "[I", .fieldLink RX6 23 "RdfsRulesModel" "fresh" "[I"] ++ wsX60)
def wsX6_makes : List Cond := .code yX6_makes cX6_makes 10 none :: ([.fieldLink RX6 85 "RdfsRulesModel" "full" "Z", .fieldLink RX6 26 "RdfsRulesModel" "places" "[I", .fieldLink RX6 91 "RdfsRulesModel" "made" "I", .fieldLink RX6 23 "RdfsRulesModel" "fresh" "[I", .methodLink RX6 88 yX6_slot, .instanceMethod yX6_slot, .selects RX6 yX6_slot yX6_slot, .initialized RX6, .code yX6_slot cX6_slot 5 (some .int)] ++ wsX60)
def wsX6_ofOne : List Cond := .code yX6_ofOne cX6_ofOne 8 none :: ([.fieldLink RX6 23 "RdfsRulesModel" "fresh" "[I", .fieldLink RX6 17 "RdfsRulesModel" "types" "[I", .methodLink RX6 94 yX6_makes, .instanceMethod yX6_makes, .selects RX6 yX6_makes yX6_makes, .initialized RX6, .code yX6_makes cX6_makes 10 none, .fieldLink RX6 85 "RdfsRulesModel" "full" "Z", .fieldLink RX6 26 "RdfsRulesModel" "places" "[I", .fieldLink RX6 91 "RdfsRulesModel" "made" "I", .methodLink RX6 88 yX6_slot, .instanceMethod yX6_slot, .selects RX6 yX6_slot yX6_slot, .code yX6_slot cX6_slot 5 (some .int)] ++ wsX60)
def wsX6_firstOf : List Cond := .code yX6_firstOf cX6_firstOf 1 (some .int) :: ([])
def wsX6_ofTwo : List Cond := .code yX6_ofTwo cX6_ofTwo 10 none :: ([.fieldLink RX6 23 "RdfsRulesModel" "fresh" "[I", .methodLink RX6 94 yX6_makes, .instanceMethod yX6_makes, .selects RX6 yX6_makes yX6_makes, .initialized RX6, .code yX6_makes cX6_makes 10 none, .fieldLink RX6 85 "RdfsRulesModel" "full" "Z", .fieldLink RX6 26 "RdfsRulesModel" "places" "[I", .fieldLink RX6 91 "RdfsRulesModel" "made" "I", .methodLink RX6 88 yX6_slot, .instanceMethod yX6_slot, .selects RX6 yX6_slot yX6_slot, .code yX6_slot cX6_slot 5 (some .int)] ++ wsX60)
def wsX6_run_r1 : List Cond := [Cond.fieldLink RX6 36 "RdfsRulesModel" "code" "I", Cond.fieldLink RX6 91 "RdfsRulesModel" "made" "I", Cond.fieldLink RX6 85 "RdfsRulesModel" "full" "Z", Cond.fieldLink RX6 26 "RdfsRulesModel" "places" "[I", Cond.fieldLink RX6 75 "RdfsRulesModel" "asked" "Z", Cond.fieldLink RX6 49 "RdfsRulesModel" "given" "I", Cond.fieldLink RX6 13 "RdfsRulesModel" "facts" "[I", Cond.fieldLink RX6 23 "RdfsRulesModel" "fresh" "[I", Cond.fieldLink RX6 109 "RdfsRulesModel" "rows" "I", Cond.fieldLink RX6 32 "RdfsRulesModel" "memberships" "Z", Cond.fieldLink RX6 7 "RdfsRulesModel" "counted" "I", Cond.fieldLink RX6 112 "RdfsRulesModel" "among" "I", Cond.fieldLink RX6 20 "RdfsRulesModel" "closure" "[I", Cond.methodLink RX6 78 yX6_axiom, Cond.instanceMethod yX6_axiom, Cond.selects RX6 yX6_axiom yX6_axiom, Cond.initialized RX6, Cond.code yX6_axiom cX6_axiom 4 (some .int), Cond.constant RX6 63 (60601), Cond.constant RX6 64 (60703), Cond.constant RX6 65 (70601), Cond.constant RX6 66 (70703), Cond.constant RX6 67 (50601), Cond.constant RX6 68 (50701)]
def wsX6_run_r2 : List Cond := [Cond.constant RX6 69 (40603), Cond.constant RX6 70 (40703), Cond.constant RX6 71 (100602), Cond.constant RX6 72 (100702), Cond.constant RX6 73 (110401), Cond.constant RX6 74 (90403), Cond.methodLink RX6 94 yX6_makes, Cond.instanceMethod yX6_makes, Cond.selects RX6 yX6_makes yX6_makes, Cond.code yX6_makes cX6_makes 10 none, Cond.methodLink RX6 88 yX6_slot, Cond.instanceMethod yX6_slot, Cond.selects RX6 yX6_slot yX6_slot, Cond.code yX6_slot cX6_slot 5 (some .int), Cond.methodLink RX6 98 yX6_firstOf, Cond.static yX6_firstOf, Cond.code yX6_firstOf cX6_firstOf 1 (some .int), Cond.methodLink RX6 101 yX6_ofOne, Cond.instanceMethod yX6_ofOne, Cond.selects RX6 yX6_ofOne yX6_ofOne, Cond.code yX6_ofOne cX6_ofOne 8 none, Cond.fieldLink RX6 17 "RdfsRulesModel" "types" "[I", Cond.methodLink RX6 105 yX6_ofTwo, Cond.instanceMethod yX6_ofTwo]
def wsX6_run_r3 : List Cond := [Cond.selects RX6 yX6_ofTwo yX6_ofTwo, Cond.code yX6_ofTwo cX6_ofTwo 10 none, Cond.methodLink RX6 46 yX6_refuses, Cond.instanceMethod yX6_refuses, Cond.selects RX6 yX6_refuses yX6_refuses, Cond.code yX6_refuses cX6_refuses 2 (some .boolean)]
def wsX6_run : List Cond := .code yX6_run cX6_run 7 (some .int) :: ((wsX6_run_r1 ++ (wsX6_run_r2 ++ wsX6_run_r3)) ++ wsX60)
def wsX6_closed : List Cond := .code yX6_closed cX6_closed 3 (some .int) :: ([.fieldLink RX6 109 "RdfsRulesModel" "rows" "I", .fieldLink RX6 20 "RdfsRulesModel" "closure" "[I", .methodLink RX6 46 yX6_refuses, .instanceMethod yX6_refuses, .selects RX6 yX6_refuses yX6_refuses, .initialized RX6, .code yX6_refuses cX6_refuses 2 (some .boolean), .fieldLink RX6 36 "RdfsRulesModel" "code" "I"] ++ wsX60)
def wsX6_find : List Cond := .code yX6_find cX6_find 5 (some .int) :: ([.fieldLink RX6 36 "RdfsRulesModel" "code" "I", .fieldLink RX6 109 "RdfsRulesModel" "rows" "I", .fieldLink RX6 20 "RdfsRulesModel" "closure" "[I"] ++ wsX60)
def wsX6_marks : List Cond := .code yX6_marks cX6_marks 5 (some .int) :: ([.fieldLink RX6 29 "RdfsRulesModel" "rests" "[I", .fieldLink RX6 20 "RdfsRulesModel" "closure" "[I"] ++ wsX60)
def wsX6_trace : List Cond := .code yX6_trace cX6_trace 2 (some .int) :: ([.fieldLink RX6 109 "RdfsRulesModel" "rows" "I", .methodLink RX6 46 yX6_refuses, .instanceMethod yX6_refuses, .selects RX6 yX6_refuses yX6_refuses, .initialized RX6, .code yX6_refuses cX6_refuses 2 (some .boolean), .fieldLink RX6 36 "RdfsRulesModel" "code" "I", .methodLink RX6 115 yX6_marks, .instanceMethod yX6_marks, .selects RX6 yX6_marks yX6_marks, .code yX6_marks cX6_marks 5 (some .int), .fieldLink RX6 29 "RdfsRulesModel" "rests" "[I", .fieldLink RX6 20 "RdfsRulesModel" "closure" "[I"] ++ wsX60)
def wsX6_proof : List Cond := .code yX6_proof cX6_proof 6 (some .int) :: ([.fieldLink RX6 109 "RdfsRulesModel" "rows" "I", .fieldLink RX6 29 "RdfsRulesModel" "rests" "[I", .methodLink RX6 46 yX6_refuses, .instanceMethod yX6_refuses, .selects RX6 yX6_refuses yX6_refuses, .initialized RX6, .code yX6_refuses cX6_refuses 2 (some .boolean), .fieldLink RX6 36 "RdfsRulesModel" "code" "I", .methodLink RX6 115 yX6_marks, .instanceMethod yX6_marks, .selects RX6 yX6_marks yX6_marks, .code yX6_marks cX6_marks 5 (some .int), .fieldLink RX6 20 "RdfsRulesModel" "closure" "[I"] ++ wsX60)
def wsX6_rule : List Cond := .code yX6_rule cX6_rule 4 (some .int) :: ([.fieldLink RX6 109 "RdfsRulesModel" "rows" "I", .fieldLink RX6 20 "RdfsRulesModel" "closure" "[I", .methodLink RX6 46 yX6_refuses, .instanceMethod yX6_refuses, .selects RX6 yX6_refuses yX6_refuses, .initialized RX6, .code yX6_refuses cX6_refuses 2 (some .boolean), .fieldLink RX6 36 "RdfsRulesModel" "code" "I"] ++ wsX60)
def wsX6_told : List Cond := .code yX6_told cX6_told 5 (some .int) :: ([.fieldLink RX6 109 "RdfsRulesModel" "rows" "I", .fieldLink RX6 49 "RdfsRulesModel" "given" "I", .fieldLink RX6 39 "RdfsRulesModel" "literals" "I", .fieldLink RX6 20 "RdfsRulesModel" "closure" "[I", .fieldLink RX6 112 "RdfsRulesModel" "among" "I", .methodLink RX6 46 yX6_refuses, .instanceMethod yX6_refuses, .selects RX6 yX6_refuses yX6_refuses, .initialized RX6, .code yX6_refuses cX6_refuses 2 (some .boolean), .fieldLink RX6 36 "RdfsRulesModel" "code" "I"] ++ wsX60)
def wsL_cell : List Cond := .code yL_cell cL_cell 2 (some .int) :: ([])
def wsL_literal_r1 : List Cond := [Cond.classLink RL 13 "java/lang/IllegalArgumentException", Cond.classLink RL 15 "java/lang/IllegalStateException", Cond.methodLink RL 7 yX5_literal, Cond.instanceMethod yX5_literal, Cond.selects RX5 yX5_literal yX5_literal, Cond.initialized RX5, Cond.code yX5_literal cX5_literal 2 (some .int), Cond.classLink RX5 55 "java/lang/IllegalArgumentException", Cond.initialized "java/lang/IllegalArgumentException", Cond.classLink RX5 66 "java/lang/IllegalStateException", Cond.initialized "java/lang/IllegalStateException", Cond.fieldLink RX5 10 "RdfsRules" "terms" "LRdfsRules$Terms;", Cond.methodLink RX5 51 yX4_isNonLiteral, Cond.instanceMethod yX4_isNonLiteral, Cond.selects RX4 yX4_isNonLiteral yX4_isNonLiteral, Cond.initialized RX4, Cond.code yX4_isNonLiteral cX4_isNonLiteral 2 (some .boolean), Cond.methodLink RX5 62 yX4_literals, Cond.instanceMethod yX4_literals, Cond.selects RX4 yX4_literals yX4_literals, Cond.code yX4_literals cX4_literals 1 (some .int), Cond.fieldLink RX4 15 "RdfsRules$Terms" "literals" "I", Cond.methodLink RX5 71 yX4_addLiteral, Cond.instanceMethod yX4_addLiteral]
def wsL_literal_r2 : List Cond := [Cond.selects RX4 yX4_addLiteral yX4_addLiteral, Cond.code yX4_addLiteral cX4_addLiteral 2 (some .int), Cond.fieldLink RX4 9 "RdfsRules$Terms" "literalTypes" "[I"]
def wsL_literal : List Cond := .codeWith yL_literal cL_literal 4 (some .int) [(0, 9, 12, 13), (0, 9, 15, 15)] :: ((wsL_literal_r1 ++ wsL_literal_r2) ++ wsX50 ++ wsX40 ++ (vx_atS RX5 59 "java/lang/IllegalArgumentException" ["java/lang/RuntimeException", "java/lang/Exception"]).filter goodWord ++ (vx_atS RX5 70 "java/lang/IllegalStateException" ["java/lang/RuntimeException", "java/lang/Exception"]).filter goodWord)
def wsL_triple_r1 : List Cond := [Cond.classLink RL 13 "java/lang/IllegalArgumentException", Cond.classLink RL 15 "java/lang/IllegalStateException", Cond.methodLink RL 17 yX5_triple, Cond.instanceMethod yX5_triple, Cond.selects RX5 yX5_triple yX5_triple, Cond.initialized RX5, Cond.code yX5_triple cX5_triple 4 (some .int), Cond.classLink RX5 55 "java/lang/IllegalArgumentException", Cond.initialized "java/lang/IllegalArgumentException", Cond.classLink RX5 66 "java/lang/IllegalStateException", Cond.initialized "java/lang/IllegalStateException", Cond.fieldLink RX5 19 "RdfsRules" "given" "LRdfsRules$GivenFacts;", Cond.methodLink RX5 75 yX5_mayBeFact, Cond.instanceMethod yX5_mayBeFact, Cond.selects RX5 yX5_mayBeFact yX5_mayBeFact, Cond.code yX5_mayBeFact cX5_mayBeFact 4 (some .boolean), Cond.fieldLink RX5 10 "RdfsRules" "terms" "LRdfsRules$Terms;", Cond.methodLink RX5 51 yX4_isNonLiteral, Cond.instanceMethod yX4_isNonLiteral, Cond.selects RX4 yX4_isNonLiteral yX4_isNonLiteral, Cond.initialized RX4, Cond.code yX4_isNonLiteral cX4_isNonLiteral 2 (some .boolean), Cond.methodLink RX5 163 yX4_isTerm, Cond.instanceMethod yX4_isTerm]
def wsL_triple_r2 : List Cond := [Cond.selects RX4 yX4_isTerm yX4_isTerm, Cond.code yX4_isTerm cX4_isTerm 2 (some .boolean), Cond.methodLink RX4 19 yX4_isNonLiteral, Cond.methodLink RX4 23 yX4_isLiteral, Cond.instanceMethod yX4_isLiteral, Cond.selects RX4 yX4_isLiteral yX4_isLiteral, Cond.code yX4_isLiteral cX4_isLiteral 2 (some .boolean), Cond.fieldLink RX4 15 "RdfsRules$Terms" "literals" "I", Cond.methodLink RX5 81 yX1_placeOf, Cond.instanceMethod yX1_placeOf, Cond.selects RX1 yX1_placeOf yX1_placeOf, Cond.initialized RX1, Cond.code yX1_placeOf cX1_placeOf 5 (some .int), Cond.fieldLink RX1 21 "RdfsRules$GivenFacts" "size" "I", Cond.fieldLink RX1 9 "RdfsRules$GivenFacts" "subjects" "[I", Cond.fieldLink RX1 15 "RdfsRules$GivenFacts" "properties" "[I", Cond.fieldLink RX1 18 "RdfsRules$GivenFacts" "objects" "[I", Cond.methodLink RX5 85 yX1_size, Cond.instanceMethod yX1_size, Cond.selects RX1 yX1_size yX1_size, Cond.code yX1_size cX1_size 1 (some .int), Cond.methodLink RX5 90 yX1_append, Cond.instanceMethod yX1_append, Cond.selects RX1 yX1_append yX1_append]
def wsL_triple_r3 : List Cond := [Cond.code yX1_append cX1_append 4 none]
def wsL_triple : List Cond := .codeWith yL_triple cL_triple 6 (some .int) [(0, 12, 15, 13), (0, 12, 19, 15)] :: ((wsL_triple_r1 ++ (wsL_triple_r2 ++ wsL_triple_r3)) ++ wsX50 ++ wsX40 ++ wsX10 ++ (vx_atS RX5 59 "java/lang/IllegalArgumentException" ["java/lang/RuntimeException", "java/lang/Exception"]).filter goodWord ++ (vx_atS RX5 70 "java/lang/IllegalStateException" ["java/lang/RuntimeException", "java/lang/Exception"]).filter goodWord)
def wsL_remove_r1 : List Cond := [Cond.classLink RL 13 "java/lang/IllegalArgumentException", Cond.methodLink RL 21 yX5_remove, Cond.instanceMethod yX5_remove, Cond.selects RX5 yX5_remove yX5_remove, Cond.initialized RX5, Cond.code yX5_remove cX5_remove 5 (some .int), Cond.classLink RX5 55 "java/lang/IllegalArgumentException", Cond.initialized "java/lang/IllegalArgumentException", Cond.fieldLink RX5 19 "RdfsRules" "given" "LRdfsRules$GivenFacts;", Cond.fieldLink RX5 28 "RdfsRules" "axiomSet" "LRdfsRules$Axioms;", Cond.methodLink RX5 75 yX5_mayBeFact, Cond.instanceMethod yX5_mayBeFact, Cond.selects RX5 yX5_mayBeFact yX5_mayBeFact, Cond.code yX5_mayBeFact cX5_mayBeFact 4 (some .boolean), Cond.fieldLink RX5 10 "RdfsRules" "terms" "LRdfsRules$Terms;", Cond.methodLink RX5 51 yX4_isNonLiteral, Cond.instanceMethod yX4_isNonLiteral, Cond.selects RX4 yX4_isNonLiteral yX4_isNonLiteral, Cond.initialized RX4, Cond.code yX4_isNonLiteral cX4_isNonLiteral 2 (some .boolean), Cond.methodLink RX5 163 yX4_isTerm, Cond.instanceMethod yX4_isTerm, Cond.selects RX4 yX4_isTerm yX4_isTerm, Cond.code yX4_isTerm cX4_isTerm 2 (some .boolean)]
def wsL_remove_r2 : List Cond := [Cond.methodLink RX4 19 yX4_isNonLiteral, Cond.methodLink RX4 23 yX4_isLiteral, Cond.instanceMethod yX4_isLiteral, Cond.selects RX4 yX4_isLiteral yX4_isLiteral, Cond.code yX4_isLiteral cX4_isLiteral 2 (some .boolean), Cond.fieldLink RX4 15 "RdfsRules$Terms" "literals" "I", Cond.methodLink RX5 81 yX1_placeOf, Cond.instanceMethod yX1_placeOf, Cond.selects RX1 yX1_placeOf yX1_placeOf, Cond.initialized RX1, Cond.code yX1_placeOf cX1_placeOf 5 (some .int), Cond.fieldLink RX1 21 "RdfsRules$GivenFacts" "size" "I", Cond.fieldLink RX1 9 "RdfsRules$GivenFacts" "subjects" "[I", Cond.fieldLink RX1 15 "RdfsRules$GivenFacts" "properties" "[I", Cond.fieldLink RX1 18 "RdfsRules$GivenFacts" "objects" "[I", Cond.methodLink RX5 94 yX1_dropAt, Cond.instanceMethod yX1_dropAt, Cond.selects RX1 yX1_dropAt yX1_dropAt, Cond.code yX1_dropAt cX1_dropAt 3 none, Cond.methodLink RX5 98 yX0_contains, Cond.instanceMethod yX0_contains, Cond.selects RX0 yX0_contains yX0_contains, Cond.initialized RX0, Cond.code yX0_contains cX0_contains 6 (some .boolean)]
def wsL_remove_r3 : List Cond := [Cond.methodLink RX0 22 yX0_size, Cond.instanceMethod yX0_size, Cond.selects RX0 yX0_size yX0_size, Cond.code yX0_size cX0_size 1 (some .int), Cond.fieldLink RX0 9 "RdfsRules$Axioms" "asked" "Z", Cond.methodLink RX0 42 yX0_memberships, Cond.instanceMethod yX0_memberships, Cond.selects RX0 yX0_memberships yX0_memberships, Cond.code yX0_memberships cX0_memberships 1 (some .int), Cond.fieldLink RX0 19 "RdfsRules$Axioms" "membershipsBelong" "Z", Cond.fieldLink RX0 15 "RdfsRules$Axioms" "count" "I", Cond.methodLink RX0 26 yX0_subject, Cond.instanceMethod yX0_subject, Cond.selects RX0 yX0_subject yX0_subject, Cond.code yX0_subject cX0_subject 2 (some .int), Cond.fieldLink RX0 45 "RdfsRules$Axioms" "FIXED" "[I", Cond.methodLink RX0 30 yX0_property, Cond.instanceMethod yX0_property, Cond.selects RX0 yX0_property yX0_property, Cond.code yX0_property cX0_property 2 (some .int), Cond.fieldLink RX0 49 "RdfsRules$Axioms" "OF_MEMBERSHIP" "[I", Cond.methodLink RX0 33 yX0_object, Cond.instanceMethod yX0_object, Cond.selects RX0 yX0_object yX0_object]
def wsL_remove_r4 : List Cond := [Cond.code yX0_object cX0_object 2 (some .int)]
def wsL_remove : List Cond := .codeWith yL_remove cL_remove 6 (some .int) [(0, 12, 15, 13)] :: ((wsL_remove_r1 ++ (wsL_remove_r2 ++ (wsL_remove_r3 ++ wsL_remove_r4))) ++ wsX50 ++ wsX40 ++ wsX10 ++ wsX00 ++ (vx_atS RX5 59 "java/lang/IllegalArgumentException" ["java/lang/RuntimeException", "java/lang/Exception"]).filter goodWord)
def wsL_count : List Cond := .codeWith yL_count cL_count 3 (some .int) [(0, 5, 8, 13)] :: ([.classLink RL 13 "java/lang/IllegalArgumentException", .methodLink RL 24 yX5_count, .instanceMethod yX5_count, .selects RX5 yX5_count yX5_count, .initialized RX5, .code yX5_count cX5_count 2 none, .classLink RX5 55 "java/lang/IllegalArgumentException", .initialized "java/lang/IllegalArgumentException", .fieldLink RX5 28 "RdfsRules" "axiomSet" "LRdfsRules$Axioms;", .methodLink RX5 106 yX0_setCount, .instanceMethod yX0_setCount, .selects RX0 yX0_setCount yX0_setCount, .initialized RX0, .code yX0_setCount cX0_setCount 2 none, .fieldLink RX0 15 "RdfsRules$Axioms" "count" "I"] ++ wsX50 ++ wsX00 ++ (vx_atS RX5 59 "java/lang/IllegalArgumentException" ["java/lang/RuntimeException", "java/lang/Exception"]).filter goodWord)
def wsL_run_r1 : List Cond := [Cond.classLink RL 32 "java/lang/UnsupportedOperationException", Cond.methodLink RL 28 yX5_run, Cond.instanceMethod yX5_run, Cond.selects RX5 yX5_run yX5_run, Cond.initialized RX5, Cond.code yX5_run cX5_run 3 (some .int), Cond.classLink RX5 124 "java/lang/UnsupportedOperationException", Cond.initialized "java/lang/UnsupportedOperationException", Cond.fieldLink RX5 39 "RdfsRules" "spare" "LRdfsRules$Rows;", Cond.fieldLink RX5 28 "RdfsRules" "axiomSet" "LRdfsRules$Axioms;", Cond.fieldLink RX5 19 "RdfsRules" "given" "LRdfsRules$GivenFacts;", Cond.fieldLink RX5 47 "RdfsRules" "reasoner" "LRdfsRules$Reasoner;", Cond.fieldLink RX5 35 "RdfsRules" "latest" "LRdfsRules$Rows;", Cond.methodLink RX5 109 yX0_memberships, Cond.instanceMethod yX0_memberships, Cond.selects RX0 yX0_memberships yX0_memberships, Cond.initialized RX0, Cond.code yX0_memberships cX0_memberships 1 (some .int), Cond.fieldLink RX0 9 "RdfsRules$Axioms" "asked" "Z", Cond.fieldLink RX0 19 "RdfsRules$Axioms" "membershipsBelong" "Z", Cond.fieldLink RX0 15 "RdfsRules$Axioms" "count" "I", Cond.methodLink RX5 112 yX3_restart, Cond.instanceMethod yX3_restart, Cond.selects RX3 yX3_restart yX3_restart]
def wsL_run_r2 : List Cond := [Cond.initialized RX3, Cond.code yX3_restart cX3_restart 2 none, Cond.fieldLink RX3 33 "RdfsRules$Rows" "rowAtSlot" "[I", Cond.fieldLink RX3 40 "RdfsRules$Rows" "size" "I", Cond.fieldLink RX3 44 "RdfsRules$Rows" "overfull" "Z", Cond.fieldLink RX3 48 "RdfsRules$Rows" "axiomMemberships" "I", Cond.methodLink RX3 51 yJ7_fill_53178, Cond.static yJ7_fill_53178, Cond.initialized RJ7, Cond.code yJ7_fill_53178 cJ7_fill_53178 4 none, Cond.methodLink RX5 115 yX0_appendTo, Cond.instanceMethod yX0_appendTo, Cond.selects RX0 yX0_appendTo yX0_appendTo, Cond.code yX0_appendTo cX0_appendTo 4 none, Cond.methodLink RX0 22 yX0_size, Cond.instanceMethod yX0_size, Cond.selects RX0 yX0_size yX0_size, Cond.code yX0_size cX0_size 1 (some .int), Cond.methodLink RX0 42 yX0_memberships, Cond.methodLink RX0 26 yX0_subject, Cond.instanceMethod yX0_subject, Cond.selects RX0 yX0_subject yX0_subject, Cond.code yX0_subject cX0_subject 2 (some .int), Cond.fieldLink RX0 45 "RdfsRules$Axioms" "FIXED" "[I"]
def wsL_run_r3 : List Cond := [Cond.methodLink RX0 30 yX0_property, Cond.instanceMethod yX0_property, Cond.selects RX0 yX0_property yX0_property, Cond.code yX0_property cX0_property 2 (some .int), Cond.fieldLink RX0 49 "RdfsRules$Axioms" "OF_MEMBERSHIP" "[I", Cond.methodLink RX0 33 yX0_object, Cond.instanceMethod yX0_object, Cond.selects RX0 yX0_object yX0_object, Cond.code yX0_object cX0_object 2 (some .int), Cond.methodLink RX0 36 yX3_addNew, Cond.instanceMethod yX3_addNew, Cond.selects RX3 yX3_addNew yX3_addNew, Cond.code yX3_addNew cX3_addNew 9 none, Cond.fieldLink RX3 9 "RdfsRules$Rows" "subjects" "[I", Cond.fieldLink RX3 15 "RdfsRules$Rows" "properties" "[I", Cond.fieldLink RX3 18 "RdfsRules$Rows" "objects" "[I", Cond.fieldLink RX3 21 "RdfsRules$Rows" "rules" "[I", Cond.fieldLink RX3 24 "RdfsRules$Rows" "firsts" "[I", Cond.fieldLink RX3 27 "RdfsRules$Rows" "seconds" "[I", Cond.fieldLink RX3 30 "RdfsRules$Rows" "rounds" "[I", Cond.methodLink RX3 57 yX3_slotOf, Cond.instanceMethod yX3_slotOf, Cond.selects RX3 yX3_slotOf yX3_slotOf, Cond.code yX3_slotOf cX3_slotOf 7 (some .int)]
def wsL_run_r4 : List Cond := [Cond.constant RX3 61 (-1640531527), Cond.methodLink RX5 119 yX1_appendTo, Cond.instanceMethod yX1_appendTo, Cond.selects RX1 yX1_appendTo yX1_appendTo, Cond.initialized RX1, Cond.code yX1_appendTo cX1_appendTo 3 none, Cond.fieldLink RX1 21 "RdfsRules$GivenFacts" "size" "I", Cond.fieldLink RX1 9 "RdfsRules$GivenFacts" "subjects" "[I", Cond.fieldLink RX1 15 "RdfsRules$GivenFacts" "properties" "[I", Cond.fieldLink RX1 18 "RdfsRules$GivenFacts" "objects" "[I", Cond.methodLink RX1 25 yX3_addNew, Cond.methodLink RX5 120 yX2_close, Cond.instanceMethod yX2_close, Cond.selects RX2 yX2_close yX2_close, Cond.initialized RX2, Cond.code yX2_close cX2_close 4 (some .int), Cond.fieldLink RX2 34 "RdfsRules$Reasoner" "rows" "LRdfsRules$Rows;", Cond.fieldLink RX2 9 "RdfsRules$Reasoner" "spent" "I", Cond.fieldLink RX2 18 "RdfsRules$Reasoner" "round" "I", Cond.fieldLink RX2 15 "RdfsRules$Reasoner" "end" "I", Cond.fieldLink RX2 21 "RdfsRules$Reasoner" "maker" "I", Cond.methodLink RX2 38 yX3_size, Cond.instanceMethod yX3_size, Cond.selects RX3 yX3_size yX3_size]
def wsL_run_r5 : List Cond := [Cond.code yX3_size cX3_size 1 (some .int), Cond.methodLink RX2 44 yX3_isOverfull, Cond.instanceMethod yX3_isOverfull, Cond.selects RX3 yX3_isOverfull yX3_isOverfull, Cond.code yX3_isOverfull cX3_isOverfull 1 (some .boolean), Cond.methodLink RX2 48 yX2_firstProperty, Cond.instanceMethod yX2_firstProperty, Cond.selects RX2 yX2_firstProperty yX2_firstProperty, Cond.code yX2_firstProperty cX2_firstProperty 1 (some .int), Cond.methodLink RX2 51 yX2_applyToSingles, Cond.instanceMethod yX2_applyToSingles, Cond.selects RX2 yX2_applyToSingles yX2_applyToSingles, Cond.code yX2_applyToSingles cX2_applyToSingles 2 none, Cond.fieldLink RX2 27 "RdfsRules$Reasoner" "second" "I", Cond.fieldLink RX2 24 "RdfsRules$Reasoner" "first" "I", Cond.fieldLink RX2 57 "RdfsRules$Rows" "subjects" "[I", Cond.fieldLink RX2 64 "RdfsRules$Rows" "properties" "[I", Cond.fieldLink RX2 61 "RdfsRules$Rows" "objects" "[I", Cond.methodLink RX2 67 yX2_makeOfOne, Cond.instanceMethod yX2_makeOfOne, Cond.selects RX2 yX2_makeOfOne yX2_makeOfOne, Cond.code yX2_makeOfOne cX2_makeOfOne 4 none, Cond.fieldLink RX2 30 "RdfsRules$Reasoner" "terms" "LRdfsRules$Terms;", Cond.methodLink RX2 79 yX4_isLiteral]
def wsL_run_r6 : List Cond := [Cond.instanceMethod yX4_isLiteral, Cond.selects RX4 yX4_isLiteral yX4_isLiteral, Cond.initialized RX4, Cond.code yX4_isLiteral cX4_isLiteral 2 (some .boolean), Cond.fieldLink RX4 15 "RdfsRules$Terms" "literals" "I", Cond.methodLink RX2 85 yX4_typeOf, Cond.instanceMethod yX4_typeOf, Cond.selects RX4 yX4_typeOf yX4_typeOf, Cond.code yX4_typeOf cX4_typeOf 2 (some .int), Cond.fieldLink RX4 9 "RdfsRules$Terms" "literalTypes" "[I", Cond.methodLink RX4 23 yX4_isLiteral, Cond.methodLink RX2 89 yX2_make, Cond.instanceMethod yX2_make, Cond.selects RX2 yX2_make yX2_make, Cond.code yX2_make cX2_make 4 none, Cond.methodLink RX2 92 yX3_addNew, Cond.methodLink RX2 54 yX2_applyToPairs, Cond.instanceMethod yX2_applyToPairs, Cond.selects RX2 yX2_applyToPairs yX2_applyToPairs, Cond.code yX2_applyToPairs cX2_applyToPairs 8 none, Cond.methodLink RX2 71 yX2_settledParts, Cond.instanceMethod yX2_settledParts, Cond.selects RX2 yX2_settledParts yX2_settledParts, Cond.code yX2_settledParts cX2_settledParts 1 (some (.array .int))]
def wsL_run_r7 : List Cond := [Cond.methodLink RX2 75 yX2_makeOfTwo, Cond.instanceMethod yX2_makeOfTwo, Cond.selects RX2 yX2_makeOfTwo yX2_makeOfTwo, Cond.code yX2_makeOfTwo cX2_makeOfTwo 6 none]
def wsL_run : List Cond := .codeWith yL_run cL_run 3 (some .int) [(0, 8, 11, 32)] :: ((wsL_run_r1 ++ (wsL_run_r2 ++ (wsL_run_r3 ++ (wsL_run_r4 ++ (wsL_run_r5 ++ (wsL_run_r6 ++ wsL_run_r7)))))) ++ wsX50 ++ wsX00 ++ wsX30 ++ wsX10 ++ wsX20 ++ wsX40 ++ (vx_atS RX5 128 "java/lang/UnsupportedOperationException" ["java/lang/RuntimeException", "java/lang/Exception"]).filter goodWord)
def wsL_closed_r1 : List Cond := [Cond.classLink RL 13 "java/lang/IllegalArgumentException", Cond.methodLink RL 34 yX5_closed, Cond.instanceMethod yX5_closed, Cond.selects RX5 yX5_closed yX5_closed, Cond.initialized RX5, Cond.code yX5_closed cX5_closed 3 (some .int), Cond.classLink RX5 55 "java/lang/IllegalArgumentException", Cond.initialized "java/lang/IllegalArgumentException", Cond.fieldLink RX5 35 "RdfsRules" "latest" "LRdfsRules$Rows;", Cond.methodLink RX5 129 yX3_isRow, Cond.instanceMethod yX3_isRow, Cond.selects RX3 yX3_isRow yX3_isRow, Cond.initialized RX3, Cond.code yX3_isRow cX3_isRow 2 (some .boolean), Cond.fieldLink RX3 40 "RdfsRules$Rows" "size" "I", Cond.methodLink RX5 134 yX3_part, Cond.instanceMethod yX3_part, Cond.selects RX3 yX3_part yX3_part, Cond.code yX3_part cX3_part 3 (some .int), Cond.fieldLink RX3 9 "RdfsRules$Rows" "subjects" "[I", Cond.fieldLink RX3 15 "RdfsRules$Rows" "properties" "[I", Cond.fieldLink RX3 18 "RdfsRules$Rows" "objects" "[I", Cond.fieldLink RX3 21 "RdfsRules$Rows" "rules" "[I", Cond.fieldLink RX3 24 "RdfsRules$Rows" "firsts" "[I"]
def wsL_closed_r2 : List Cond := [Cond.fieldLink RX3 27 "RdfsRules$Rows" "seconds" "[I", Cond.fieldLink RX3 30 "RdfsRules$Rows" "rounds" "[I"]
def wsL_closed : List Cond := .codeWith yL_closed cL_closed 5 (some .int) [(0, 10, 13, 13)] :: ((wsL_closed_r1 ++ wsL_closed_r2) ++ wsX50 ++ wsX30 ++ (vx_atS RX5 59 "java/lang/IllegalArgumentException" ["java/lang/RuntimeException", "java/lang/Exception"]).filter goodWord)
def wsL_trace_r1 : List Cond := [Cond.classLink RL 13 "java/lang/IllegalArgumentException", Cond.methodLink RL 38 yX5_trace, Cond.instanceMethod yX5_trace, Cond.selects RX5 yX5_trace yX5_trace, Cond.initialized RX5, Cond.code yX5_trace cX5_trace 2 (some .int), Cond.classLink RX5 55 "java/lang/IllegalArgumentException", Cond.initialized "java/lang/IllegalArgumentException", Cond.fieldLink RX5 35 "RdfsRules" "latest" "LRdfsRules$Rows;", Cond.methodLink RX5 129 yX3_isRow, Cond.instanceMethod yX3_isRow, Cond.selects RX3 yX3_isRow yX3_isRow, Cond.initialized RX3, Cond.code yX3_isRow cX3_isRow 2 (some .boolean), Cond.fieldLink RX3 40 "RdfsRules$Rows" "size" "I", Cond.methodLink RX5 143 yX3_restSize, Cond.instanceMethod yX3_restSize, Cond.selects RX3 yX3_restSize yX3_restSize, Cond.code yX3_restSize cX3_restSize 4 (some .int), Cond.fieldLink RX3 36 "RdfsRules$Rows" "rests" "[Z", Cond.methodLink RX3 62 yX3_markRest, Cond.instanceMethod yX3_markRest, Cond.selects RX3 yX3_markRest yX3_markRest, Cond.code yX3_markRest cX3_markRest 3 none]
def wsL_trace_r2 : List Cond := [Cond.fieldLink RX3 24 "RdfsRules$Rows" "firsts" "[I", Cond.fieldLink RX3 27 "RdfsRules$Rows" "seconds" "[I", Cond.methodLink RX3 66 yX3_markIfRow, Cond.instanceMethod yX3_markIfRow, Cond.selects RX3 yX3_markIfRow yX3_markIfRow, Cond.code yX3_markIfRow cX3_markIfRow 2 none]
def wsL_trace : List Cond := .codeWith yL_trace cL_trace 4 (some .int) [(0, 9, 12, 13)] :: ((wsL_trace_r1 ++ wsL_trace_r2) ++ wsX50 ++ wsX30 ++ (vx_atS RX5 59 "java/lang/IllegalArgumentException" ["java/lang/RuntimeException", "java/lang/Exception"]).filter goodWord)
def wsL_proof_r1 : List Cond := [Cond.classLink RL 13 "java/lang/IllegalArgumentException", Cond.methodLink RL 41 yX5_proof, Cond.instanceMethod yX5_proof, Cond.selects RX5 yX5_proof yX5_proof, Cond.initialized RX5, Cond.code yX5_proof cX5_proof 3 (some .int), Cond.classLink RX5 55 "java/lang/IllegalArgumentException", Cond.initialized "java/lang/IllegalArgumentException", Cond.fieldLink RX5 35 "RdfsRules" "latest" "LRdfsRules$Rows;", Cond.methodLink RX5 129 yX3_isRow, Cond.instanceMethod yX3_isRow, Cond.selects RX3 yX3_isRow yX3_isRow, Cond.initialized RX3, Cond.code yX3_isRow cX3_isRow 2 (some .boolean), Cond.fieldLink RX3 40 "RdfsRules$Rows" "size" "I", Cond.methodLink RX5 146 yX3_restMember, Cond.instanceMethod yX3_restMember, Cond.selects RX3 yX3_restMember yX3_restMember, Cond.code yX3_restMember cX3_restMember 5 (some .int), Cond.fieldLink RX3 36 "RdfsRules$Rows" "rests" "[Z", Cond.methodLink RX3 62 yX3_markRest, Cond.instanceMethod yX3_markRest, Cond.selects RX3 yX3_markRest yX3_markRest, Cond.code yX3_markRest cX3_markRest 3 none]
def wsL_proof_r2 : List Cond := [Cond.fieldLink RX3 24 "RdfsRules$Rows" "firsts" "[I", Cond.fieldLink RX3 27 "RdfsRules$Rows" "seconds" "[I", Cond.methodLink RX3 66 yX3_markIfRow, Cond.instanceMethod yX3_markIfRow, Cond.selects RX3 yX3_markIfRow yX3_markIfRow, Cond.code yX3_markIfRow cX3_markIfRow 2 none]
def wsL_proof : List Cond := .codeWith yL_proof cL_proof 5 (some .int) [(0, 10, 13, 13)] :: ((wsL_proof_r1 ++ wsL_proof_r2) ++ wsX50 ++ wsX30 ++ (vx_atS RX5 59 "java/lang/IllegalArgumentException" ["java/lang/RuntimeException", "java/lang/Exception"]).filter goodWord)
def wsL_rule : List Cond := .codeWith yL_rule cL_rule 4 (some .int) [(0, 9, 12, 13)] :: ([.classLink RL 13 "java/lang/IllegalArgumentException", .methodLink RL 44 yX5_rule, .instanceMethod yX5_rule, .selects RX5 yX5_rule yX5_rule, .initialized RX5, .code yX5_rule cX5_rule 2 (some .int), .classLink RX5 55 "java/lang/IllegalArgumentException", .initialized "java/lang/IllegalArgumentException", .fieldLink RX5 35 "RdfsRules" "latest" "LRdfsRules$Rows;", .methodLink RX5 151 yX3_madeBy, .instanceMethod yX3_madeBy, .selects RX3 yX3_madeBy yX3_madeBy, .initialized RX3, .code yX3_madeBy cX3_madeBy 4 (some .int), .fieldLink RX3 40 "RdfsRules$Rows" "size" "I", .fieldLink RX3 21 "RdfsRules$Rows" "rules" "[I"] ++ wsX50 ++ wsX30 ++ (vx_atS RX5 59 "java/lang/IllegalArgumentException" ["java/lang/RuntimeException", "java/lang/Exception"]).filter goodWord)
def wsL_told_r1 : List Cond := [Cond.classLink RL 13 "java/lang/IllegalArgumentException", Cond.methodLink RL 47 yX5_told, Cond.instanceMethod yX5_told, Cond.selects RX5 yX5_told yX5_told, Cond.initialized RX5, Cond.code yX5_told cX5_told 2 (some .int), Cond.classLink RX5 55 "java/lang/IllegalArgumentException", Cond.initialized "java/lang/IllegalArgumentException", Cond.fieldLink RX5 35 "RdfsRules" "latest" "LRdfsRules$Rows;", Cond.fieldLink RX5 19 "RdfsRules" "given" "LRdfsRules$GivenFacts;", Cond.fieldLink RX5 10 "RdfsRules" "terms" "LRdfsRules$Terms;", Cond.methodLink RX5 154 yX3_size, Cond.instanceMethod yX3_size, Cond.selects RX3 yX3_size yX3_size, Cond.initialized RX3, Cond.code yX3_size cX3_size 1 (some .int), Cond.fieldLink RX3 40 "RdfsRules$Rows" "size" "I", Cond.methodLink RX5 85 yX1_size, Cond.instanceMethod yX1_size, Cond.selects RX1 yX1_size yX1_size, Cond.initialized RX1, Cond.code yX1_size cX1_size 1 (some .int), Cond.fieldLink RX1 21 "RdfsRules$GivenFacts" "size" "I", Cond.methodLink RX5 62 yX4_literals]
def wsL_told_r2 : List Cond := [Cond.instanceMethod yX4_literals, Cond.selects RX4 yX4_literals yX4_literals, Cond.initialized RX4, Cond.code yX4_literals cX4_literals 1 (some .int), Cond.fieldLink RX4 15 "RdfsRules$Terms" "literals" "I", Cond.methodLink RX5 155 yX3_literalSubjects, Cond.instanceMethod yX3_literalSubjects, Cond.selects RX3 yX3_literalSubjects yX3_literalSubjects, Cond.code yX3_literalSubjects cX3_literalSubjects 3 (some .int), Cond.fieldLink RX3 9 "RdfsRules$Rows" "subjects" "[I", Cond.methodLink RX5 158 yX3_membershipsBeyondAxioms, Cond.instanceMethod yX3_membershipsBeyondAxioms, Cond.selects RX3 yX3_membershipsBeyondAxioms yX3_membershipsBeyondAxioms, Cond.code yX3_membershipsBeyondAxioms cX3_membershipsBeyondAxioms 3 (some .int), Cond.fieldLink RX3 15 "RdfsRules$Rows" "properties" "[I", Cond.fieldLink RX3 48 "RdfsRules$Rows" "axiomMemberships" "I"]
def wsL_told : List Cond := .codeWith yL_told cL_told 4 (some .int) [(0, 9, 12, 13)] :: ((wsL_told_r1 ++ wsL_told_r2) ++ wsX50 ++ wsX30 ++ wsX10 ++ wsX40 ++ (vx_atS RX5 59 "java/lang/IllegalArgumentException" ["java/lang/RuntimeException", "java/lang/Exception"]).filter goodWord)
def wsL_law0_r1 : List Cond := [Cond.classLink RL 8 RX5, Cond.instantiable RX5 6, Cond.initialized RX5, Cond.classLink RL 58 RX6, Cond.instantiable RX6 16, Cond.initialized RX6, Cond.arrayClass .long, Cond.methodLink RL 50 yL_cell, Cond.static yL_cell, Cond.initialized RL, Cond.code yL_cell cL_cell 2 (some .int), Cond.methodLink RL 56 yX5_init, Cond.instanceMethod yX5_init, Cond.code yX5_init cX5_init 2 none, Cond.methodLink RX5 1 objectInit, Cond.instanceMethod objectInit, Cond.code objectInit ⟨#[0xb1]⟩ 1 none, Cond.classLink RX5 7 RX4, Cond.instantiable RX4 2, Cond.initialized RX4, Cond.fieldLink RX5 10 "RdfsRules" "terms" "LRdfsRules$Terms;", Cond.classLink RX5 16 RX1, Cond.instantiable RX1 4, Cond.initialized RX1]
def wsL_law0_r2 : List Cond := [Cond.fieldLink RX5 19 "RdfsRules" "given" "LRdfsRules$GivenFacts;", Cond.classLink RX5 23 RX0, Cond.instantiable RX0 3, Cond.initialized RX0, Cond.fieldLink RX5 28 "RdfsRules" "axiomSet" "LRdfsRules$Axioms;", Cond.classLink RX5 32 RX3, Cond.instantiable RX3 12, Cond.initialized RX3, Cond.fieldLink RX5 35 "RdfsRules" "latest" "LRdfsRules$Rows;", Cond.fieldLink RX5 39 "RdfsRules" "spare" "LRdfsRules$Rows;", Cond.classLink RX5 42 RX2, Cond.instantiable RX2 8, Cond.initialized RX2, Cond.fieldLink RX5 47 "RdfsRules" "reasoner" "LRdfsRules$Reasoner;", Cond.instanceMethod yX4_init, Cond.code yX4_init cX4_init 1 none, Cond.methodLink RX4 3 objectInit, Cond.arrayClass .int, Cond.fieldLink RX4 9 "RdfsRules$Terms" "literalTypes" "[I", Cond.fieldLink RX4 15 "RdfsRules$Terms" "literals" "I", Cond.instanceMethod yX1_init, Cond.code yX1_init cX1_init 1 none, Cond.methodLink RX1 3 objectInit, Cond.fieldLink RX1 9 "RdfsRules$GivenFacts" "subjects" "[I"]
def wsL_law0_r3 : List Cond := [Cond.fieldLink RX1 15 "RdfsRules$GivenFacts" "properties" "[I", Cond.fieldLink RX1 18 "RdfsRules$GivenFacts" "objects" "[I", Cond.fieldLink RX1 21 "RdfsRules$GivenFacts" "size" "I", Cond.methodLink RX5 25 yX0_init, Cond.instanceMethod yX0_init, Cond.code yX0_init cX0_init 2 none, Cond.methodLink RX0 3 objectInit, Cond.fieldLink RX0 9 "RdfsRules$Axioms" "asked" "Z", Cond.fieldLink RX0 15 "RdfsRules$Axioms" "count" "I", Cond.fieldLink RX0 19 "RdfsRules$Axioms" "membershipsBelong" "Z", Cond.methodLink RX5 34 yX3_init, Cond.instanceMethod yX3_init, Cond.code yX3_init cX3_init 1 none, Cond.methodLink RX3 3 objectInit, Cond.fieldLink RX3 9 "RdfsRules$Rows" "subjects" "[I", Cond.fieldLink RX3 15 "RdfsRules$Rows" "properties" "[I", Cond.fieldLink RX3 18 "RdfsRules$Rows" "objects" "[I", Cond.fieldLink RX3 21 "RdfsRules$Rows" "rules" "[I", Cond.fieldLink RX3 24 "RdfsRules$Rows" "firsts" "[I", Cond.fieldLink RX3 27 "RdfsRules$Rows" "seconds" "[I", Cond.fieldLink RX3 30 "RdfsRules$Rows" "rounds" "[I", Cond.fieldLink RX3 33 "RdfsRules$Rows" "rowAtSlot" "[I", Cond.arrayClass .boolean, Cond.fieldLink RX3 36 "RdfsRules$Rows" "rests" "[Z"]
def wsL_law0_r4 : List Cond := [Cond.fieldLink RX3 40 "RdfsRules$Rows" "size" "I", Cond.fieldLink RX3 44 "RdfsRules$Rows" "overfull" "Z", Cond.fieldLink RX3 48 "RdfsRules$Rows" "axiomMemberships" "I", Cond.methodLink RX3 51 yJ7_fill_53178, Cond.static yJ7_fill_53178, Cond.initialized RJ7, Cond.code yJ7_fill_53178 cJ7_fill_53178 4 none, Cond.methodLink RX5 44 yX2_init, Cond.instanceMethod yX2_init, Cond.code yX2_init cX2_init 3 none, Cond.methodLink RX2 3 objectInit, Cond.fieldLink RX2 9 "RdfsRules$Reasoner" "spent" "I", Cond.fieldLink RX2 15 "RdfsRules$Reasoner" "end" "I", Cond.fieldLink RX2 18 "RdfsRules$Reasoner" "round" "I", Cond.fieldLink RX2 21 "RdfsRules$Reasoner" "maker" "I", Cond.fieldLink RX2 24 "RdfsRules$Reasoner" "first" "I", Cond.fieldLink RX2 27 "RdfsRules$Reasoner" "second" "I", Cond.fieldLink RX2 30 "RdfsRules$Reasoner" "terms" "LRdfsRules$Terms;", Cond.fieldLink RX2 34 "RdfsRules$Reasoner" "rows" "LRdfsRules$Rows;", Cond.methodLink RL 60 yX6_init, Cond.instanceMethod yX6_init, Cond.code yX6_init cX6_init 2 none, Cond.methodLink RX6 1 objectInit, Cond.fieldLink RX6 7 "RdfsRulesModel" "counted" "I"]
def wsL_law0_r5 : List Cond := [Cond.fieldLink RX6 13 "RdfsRulesModel" "facts" "[I", Cond.fieldLink RX6 17 "RdfsRulesModel" "types" "[I", Cond.fieldLink RX6 20 "RdfsRulesModel" "closure" "[I", Cond.fieldLink RX6 23 "RdfsRulesModel" "fresh" "[I", Cond.fieldLink RX6 26 "RdfsRulesModel" "places" "[I", Cond.fieldLink RX6 29 "RdfsRulesModel" "rests" "[I", Cond.fieldLink RX6 32 "RdfsRulesModel" "memberships" "Z", Cond.methodLink RL 61 yL_literal, Cond.static yL_literal, Cond.codeWith yL_literal cL_literal 4 (some .int) [(0, 9, 12, 13), (0, 9, 15, 15)], Cond.classLink RL 13 "java/lang/IllegalArgumentException", Cond.classLink RL 15 "java/lang/IllegalStateException", Cond.methodLink RL 7 yX5_literal, Cond.instanceMethod yX5_literal, Cond.selects RX5 yX5_literal yX5_literal, Cond.code yX5_literal cX5_literal 2 (some .int), Cond.classLink RX5 55 "java/lang/IllegalArgumentException", Cond.initialized "java/lang/IllegalArgumentException", Cond.classLink RX5 66 "java/lang/IllegalStateException", Cond.initialized "java/lang/IllegalStateException", Cond.methodLink RX5 51 yX4_isNonLiteral, Cond.instanceMethod yX4_isNonLiteral, Cond.selects RX4 yX4_isNonLiteral yX4_isNonLiteral, Cond.code yX4_isNonLiteral cX4_isNonLiteral 2 (some .boolean)]
def wsL_law0_r6 : List Cond := [Cond.methodLink RX5 62 yX4_literals, Cond.instanceMethod yX4_literals, Cond.selects RX4 yX4_literals yX4_literals, Cond.code yX4_literals cX4_literals 1 (some .int), Cond.methodLink RX5 71 yX4_addLiteral, Cond.instanceMethod yX4_addLiteral, Cond.selects RX4 yX4_addLiteral yX4_addLiteral, Cond.code yX4_addLiteral cX4_addLiteral 2 (some .int), Cond.methodLink RL 64 yX6_literal, Cond.instanceMethod yX6_literal, Cond.selects RX6 yX6_literal yX6_literal, Cond.code yX6_literal cX6_literal 2 (some .int), Cond.fieldLink RX6 39 "RdfsRulesModel" "literals" "I", Cond.methodLink RX6 42 yX6_isPlain, Cond.instanceMethod yX6_isPlain, Cond.selects RX6 yX6_isPlain yX6_isPlain, Cond.code yX6_isPlain cX6_isPlain 2 (some .boolean), Cond.methodLink RX6 46 yX6_refuses, Cond.instanceMethod yX6_refuses, Cond.selects RX6 yX6_refuses yX6_refuses, Cond.code yX6_refuses cX6_refuses 2 (some .boolean), Cond.fieldLink RX6 36 "RdfsRulesModel" "code" "I", Cond.methodLink RL 65 yX6_thrown, Cond.instanceMethod yX6_thrown]
def wsL_law0_r7 : List Cond := [Cond.selects RX6 yX6_thrown yX6_thrown, Cond.code yX6_thrown cX6_thrown 1 (some .int), Cond.methodLink RL 68 yL_triple, Cond.static yL_triple, Cond.codeWith yL_triple cL_triple 6 (some .int) [(0, 12, 15, 13), (0, 12, 19, 15)], Cond.methodLink RL 17 yX5_triple, Cond.instanceMethod yX5_triple, Cond.selects RX5 yX5_triple yX5_triple, Cond.code yX5_triple cX5_triple 4 (some .int), Cond.methodLink RX5 75 yX5_mayBeFact, Cond.instanceMethod yX5_mayBeFact, Cond.selects RX5 yX5_mayBeFact yX5_mayBeFact, Cond.code yX5_mayBeFact cX5_mayBeFact 4 (some .boolean), Cond.methodLink RX5 163 yX4_isTerm, Cond.instanceMethod yX4_isTerm, Cond.selects RX4 yX4_isTerm yX4_isTerm, Cond.code yX4_isTerm cX4_isTerm 2 (some .boolean), Cond.methodLink RX4 19 yX4_isNonLiteral, Cond.methodLink RX4 23 yX4_isLiteral, Cond.instanceMethod yX4_isLiteral, Cond.selects RX4 yX4_isLiteral yX4_isLiteral, Cond.code yX4_isLiteral cX4_isLiteral 2 (some .boolean), Cond.methodLink RX5 81 yX1_placeOf, Cond.instanceMethod yX1_placeOf]
def wsL_law0_r8 : List Cond := [Cond.selects RX1 yX1_placeOf yX1_placeOf, Cond.code yX1_placeOf cX1_placeOf 5 (some .int), Cond.methodLink RX5 85 yX1_size, Cond.instanceMethod yX1_size, Cond.selects RX1 yX1_size yX1_size, Cond.code yX1_size cX1_size 1 (some .int), Cond.methodLink RX5 90 yX1_append, Cond.instanceMethod yX1_append, Cond.selects RX1 yX1_append yX1_append, Cond.code yX1_append cX1_append 4 none, Cond.methodLink RL 71 yX6_triple, Cond.instanceMethod yX6_triple, Cond.selects RX6 yX6_triple yX6_triple, Cond.code yX6_triple cX6_triple 5 (some .int), Cond.fieldLink RX6 49 "RdfsRulesModel" "given" "I", Cond.methodLink RX6 55 yX6_place, Cond.instanceMethod yX6_place, Cond.selects RX6 yX6_place yX6_place, Cond.code yX6_place cX6_place 5 (some .int), Cond.methodLink RX6 59 yX6_isFact, Cond.instanceMethod yX6_isFact, Cond.selects RX6 yX6_isFact yX6_isFact, Cond.code yX6_isFact cX6_isFact 4 (some .boolean), Cond.methodLink RX6 52 yX6_isLiteral]
def wsL_law0_r9 : List Cond := [Cond.instanceMethod yX6_isLiteral, Cond.selects RX6 yX6_isLiteral yX6_isLiteral, Cond.code yX6_isLiteral cX6_isLiteral 2 (some .boolean), Cond.methodLink RL 72 yL_remove, Cond.static yL_remove, Cond.codeWith yL_remove cL_remove 6 (some .int) [(0, 12, 15, 13)], Cond.methodLink RL 21 yX5_remove, Cond.instanceMethod yX5_remove, Cond.selects RX5 yX5_remove yX5_remove, Cond.code yX5_remove cX5_remove 5 (some .int), Cond.methodLink RX5 94 yX1_dropAt, Cond.instanceMethod yX1_dropAt, Cond.selects RX1 yX1_dropAt yX1_dropAt, Cond.code yX1_dropAt cX1_dropAt 3 none, Cond.methodLink RX5 98 yX0_contains, Cond.instanceMethod yX0_contains, Cond.selects RX0 yX0_contains yX0_contains, Cond.code yX0_contains cX0_contains 6 (some .boolean), Cond.methodLink RX0 22 yX0_size, Cond.instanceMethod yX0_size, Cond.selects RX0 yX0_size yX0_size, Cond.code yX0_size cX0_size 1 (some .int), Cond.methodLink RX0 42 yX0_memberships, Cond.instanceMethod yX0_memberships]
def wsL_law0_r10 : List Cond := [Cond.selects RX0 yX0_memberships yX0_memberships, Cond.code yX0_memberships cX0_memberships 1 (some .int), Cond.methodLink RX0 26 yX0_subject, Cond.instanceMethod yX0_subject, Cond.selects RX0 yX0_subject yX0_subject, Cond.code yX0_subject cX0_subject 2 (some .int), Cond.fieldLink RX0 45 "RdfsRules$Axioms" "FIXED" "[I", Cond.methodLink RX0 30 yX0_property, Cond.instanceMethod yX0_property, Cond.selects RX0 yX0_property yX0_property, Cond.code yX0_property cX0_property 2 (some .int), Cond.fieldLink RX0 49 "RdfsRules$Axioms" "OF_MEMBERSHIP" "[I", Cond.methodLink RX0 33 yX0_object, Cond.instanceMethod yX0_object, Cond.selects RX0 yX0_object yX0_object, Cond.code yX0_object cX0_object 2 (some .int), Cond.methodLink RL 74 yX6_remove, Cond.instanceMethod yX6_remove, Cond.selects RX6 yX6_remove yX6_remove, Cond.code yX6_remove cX6_remove 6 (some .int), Cond.methodLink RX6 82 yX6_isAxiom, Cond.instanceMethod yX6_isAxiom, Cond.selects RX6 yX6_isAxiom yX6_isAxiom, Cond.code yX6_isAxiom cX6_isAxiom 7 (some .boolean)]
def wsL_law0_r11 : List Cond := [Cond.fieldLink RX6 75 "RdfsRulesModel" "asked" "Z", Cond.methodLink RX6 78 yX6_axiom, Cond.instanceMethod yX6_axiom, Cond.selects RX6 yX6_axiom yX6_axiom, Cond.code yX6_axiom cX6_axiom 4 (some .int), Cond.constant RX6 63 (60601), Cond.constant RX6 64 (60703), Cond.constant RX6 65 (70601), Cond.constant RX6 66 (70703), Cond.constant RX6 67 (50601), Cond.constant RX6 68 (50701), Cond.constant RX6 69 (40603), Cond.constant RX6 70 (40703), Cond.constant RX6 71 (100602), Cond.constant RX6 72 (100702), Cond.constant RX6 73 (110401), Cond.constant RX6 74 (90403), Cond.methodLink RL 75 yX5_axioms, Cond.instanceMethod yX5_axioms, Cond.selects RX5 yX5_axioms yX5_axioms, Cond.code yX5_axioms cX5_axioms 2 none, Cond.methodLink RX5 101 yX0_ask, Cond.instanceMethod yX0_ask, Cond.selects RX0 yX0_ask yX0_ask]
def wsL_law0_r12 : List Cond := [Cond.code yX0_ask cX0_ask 2 none, Cond.methodLink RL 79 yX6_axioms, Cond.instanceMethod yX6_axioms, Cond.selects RX6 yX6_axioms yX6_axioms, Cond.code yX6_axioms cX6_axioms 2 none, Cond.methodLink RL 80 yL_count, Cond.static yL_count, Cond.codeWith yL_count cL_count 3 (some .int) [(0, 5, 8, 13)], Cond.methodLink RL 24 yX5_count, Cond.instanceMethod yX5_count, Cond.selects RX5 yX5_count yX5_count, Cond.code yX5_count cX5_count 2 none, Cond.methodLink RX5 106 yX0_setCount, Cond.instanceMethod yX0_setCount, Cond.selects RX0 yX0_setCount yX0_setCount, Cond.code yX0_setCount cX0_setCount 2 none, Cond.methodLink RL 83 yX6_count, Cond.instanceMethod yX6_count, Cond.selects RX6 yX6_count yX6_count, Cond.code yX6_count cX6_count 2 none, Cond.methodLink RL 84 yL_run, Cond.static yL_run, Cond.codeWith yL_run cL_run 3 (some .int) [(0, 8, 11, 32)], Cond.classLink RL 32 "java/lang/UnsupportedOperationException"]
def wsL_law0_r13 : List Cond := [Cond.methodLink RL 28 yX5_run, Cond.instanceMethod yX5_run, Cond.selects RX5 yX5_run yX5_run, Cond.code yX5_run cX5_run 3 (some .int), Cond.classLink RX5 124 "java/lang/UnsupportedOperationException", Cond.initialized "java/lang/UnsupportedOperationException", Cond.methodLink RX5 109 yX0_memberships, Cond.methodLink RX5 112 yX3_restart, Cond.instanceMethod yX3_restart, Cond.selects RX3 yX3_restart yX3_restart, Cond.code yX3_restart cX3_restart 2 none, Cond.methodLink RX5 115 yX0_appendTo, Cond.instanceMethod yX0_appendTo, Cond.selects RX0 yX0_appendTo yX0_appendTo, Cond.code yX0_appendTo cX0_appendTo 4 none, Cond.methodLink RX0 36 yX3_addNew, Cond.instanceMethod yX3_addNew, Cond.selects RX3 yX3_addNew yX3_addNew, Cond.code yX3_addNew cX3_addNew 9 none, Cond.methodLink RX3 57 yX3_slotOf, Cond.instanceMethod yX3_slotOf, Cond.selects RX3 yX3_slotOf yX3_slotOf, Cond.code yX3_slotOf cX3_slotOf 7 (some .int), Cond.constant RX3 61 (-1640531527)]
def wsL_law0_r14 : List Cond := [Cond.methodLink RX5 119 yX1_appendTo, Cond.instanceMethod yX1_appendTo, Cond.selects RX1 yX1_appendTo yX1_appendTo, Cond.code yX1_appendTo cX1_appendTo 3 none, Cond.methodLink RX1 25 yX3_addNew, Cond.methodLink RX5 120 yX2_close, Cond.instanceMethod yX2_close, Cond.selects RX2 yX2_close yX2_close, Cond.code yX2_close cX2_close 4 (some .int), Cond.methodLink RX2 38 yX3_size, Cond.instanceMethod yX3_size, Cond.selects RX3 yX3_size yX3_size, Cond.code yX3_size cX3_size 1 (some .int), Cond.methodLink RX2 44 yX3_isOverfull, Cond.instanceMethod yX3_isOverfull, Cond.selects RX3 yX3_isOverfull yX3_isOverfull, Cond.code yX3_isOverfull cX3_isOverfull 1 (some .boolean), Cond.methodLink RX2 48 yX2_firstProperty, Cond.instanceMethod yX2_firstProperty, Cond.selects RX2 yX2_firstProperty yX2_firstProperty, Cond.code yX2_firstProperty cX2_firstProperty 1 (some .int), Cond.methodLink RX2 51 yX2_applyToSingles, Cond.instanceMethod yX2_applyToSingles, Cond.selects RX2 yX2_applyToSingles yX2_applyToSingles]
def wsL_law0_r15 : List Cond := [Cond.code yX2_applyToSingles cX2_applyToSingles 2 none, Cond.fieldLink RX2 57 "RdfsRules$Rows" "subjects" "[I", Cond.fieldLink RX2 64 "RdfsRules$Rows" "properties" "[I", Cond.fieldLink RX2 61 "RdfsRules$Rows" "objects" "[I", Cond.methodLink RX2 67 yX2_makeOfOne, Cond.instanceMethod yX2_makeOfOne, Cond.selects RX2 yX2_makeOfOne yX2_makeOfOne, Cond.code yX2_makeOfOne cX2_makeOfOne 4 none, Cond.methodLink RX2 79 yX4_isLiteral, Cond.methodLink RX2 85 yX4_typeOf, Cond.instanceMethod yX4_typeOf, Cond.selects RX4 yX4_typeOf yX4_typeOf, Cond.code yX4_typeOf cX4_typeOf 2 (some .int), Cond.methodLink RX2 89 yX2_make, Cond.instanceMethod yX2_make, Cond.selects RX2 yX2_make yX2_make, Cond.code yX2_make cX2_make 4 none, Cond.methodLink RX2 92 yX3_addNew, Cond.methodLink RX2 54 yX2_applyToPairs, Cond.instanceMethod yX2_applyToPairs, Cond.selects RX2 yX2_applyToPairs yX2_applyToPairs, Cond.code yX2_applyToPairs cX2_applyToPairs 8 none, Cond.methodLink RX2 71 yX2_settledParts, Cond.instanceMethod yX2_settledParts]
def wsL_law0_r16 : List Cond := [Cond.selects RX2 yX2_settledParts yX2_settledParts, Cond.code yX2_settledParts cX2_settledParts 1 (some (.array .int)), Cond.methodLink RX2 75 yX2_makeOfTwo, Cond.instanceMethod yX2_makeOfTwo, Cond.selects RX2 yX2_makeOfTwo yX2_makeOfTwo, Cond.code yX2_makeOfTwo cX2_makeOfTwo 6 none, Cond.methodLink RL 87 yX6_run, Cond.instanceMethod yX6_run, Cond.selects RX6 yX6_run yX6_run, Cond.code yX6_run cX6_run 7 (some .int), Cond.fieldLink RX6 91 "RdfsRulesModel" "made" "I", Cond.fieldLink RX6 85 "RdfsRulesModel" "full" "Z", Cond.fieldLink RX6 109 "RdfsRulesModel" "rows" "I", Cond.fieldLink RX6 112 "RdfsRulesModel" "among" "I", Cond.methodLink RX6 94 yX6_makes, Cond.instanceMethod yX6_makes, Cond.selects RX6 yX6_makes yX6_makes, Cond.code yX6_makes cX6_makes 10 none, Cond.methodLink RX6 88 yX6_slot, Cond.instanceMethod yX6_slot, Cond.selects RX6 yX6_slot yX6_slot, Cond.code yX6_slot cX6_slot 5 (some .int), Cond.methodLink RX6 98 yX6_firstOf, Cond.static yX6_firstOf]
def wsL_law0_r17 : List Cond := [Cond.code yX6_firstOf cX6_firstOf 1 (some .int), Cond.methodLink RX6 101 yX6_ofOne, Cond.instanceMethod yX6_ofOne, Cond.selects RX6 yX6_ofOne yX6_ofOne, Cond.code yX6_ofOne cX6_ofOne 8 none, Cond.methodLink RX6 105 yX6_ofTwo, Cond.instanceMethod yX6_ofTwo, Cond.selects RX6 yX6_ofTwo yX6_ofTwo, Cond.code yX6_ofTwo cX6_ofTwo 10 none, Cond.methodLink RL 88 yL_closed, Cond.static yL_closed, Cond.codeWith yL_closed cL_closed 5 (some .int) [(0, 10, 13, 13)], Cond.methodLink RL 34 yX5_closed, Cond.instanceMethod yX5_closed, Cond.selects RX5 yX5_closed yX5_closed, Cond.code yX5_closed cX5_closed 3 (some .int), Cond.methodLink RX5 129 yX3_isRow, Cond.instanceMethod yX3_isRow, Cond.selects RX3 yX3_isRow yX3_isRow, Cond.code yX3_isRow cX3_isRow 2 (some .boolean), Cond.methodLink RX5 134 yX3_part, Cond.instanceMethod yX3_part, Cond.selects RX3 yX3_part yX3_part, Cond.code yX3_part cX3_part 3 (some .int)]
def wsL_law0_r18 : List Cond := [Cond.methodLink RL 91 yX6_closed, Cond.instanceMethod yX6_closed, Cond.selects RX6 yX6_closed yX6_closed, Cond.code yX6_closed cX6_closed 3 (some .int), Cond.methodLink RL 92 yX5_find, Cond.instanceMethod yX5_find, Cond.selects RX5 yX5_find yX5_find, Cond.code yX5_find cX5_find 4 (some .int), Cond.methodLink RX5 138 yX3_rowOf, Cond.instanceMethod yX3_rowOf, Cond.selects RX3 yX3_rowOf yX3_rowOf, Cond.code yX3_rowOf cX3_rowOf 4 (some .int), Cond.methodLink RL 95 yX6_find, Cond.instanceMethod yX6_find, Cond.selects RX6 yX6_find yX6_find, Cond.code yX6_find cX6_find 5 (some .int), Cond.methodLink RL 96 yL_trace, Cond.static yL_trace, Cond.codeWith yL_trace cL_trace 4 (some .int) [(0, 9, 12, 13)], Cond.methodLink RL 38 yX5_trace, Cond.instanceMethod yX5_trace, Cond.selects RX5 yX5_trace yX5_trace, Cond.code yX5_trace cX5_trace 2 (some .int), Cond.methodLink RX5 143 yX3_restSize]
def wsL_law0_r19 : List Cond := [Cond.instanceMethod yX3_restSize, Cond.selects RX3 yX3_restSize yX3_restSize, Cond.code yX3_restSize cX3_restSize 4 (some .int), Cond.methodLink RX3 62 yX3_markRest, Cond.instanceMethod yX3_markRest, Cond.selects RX3 yX3_markRest yX3_markRest, Cond.code yX3_markRest cX3_markRest 3 none, Cond.methodLink RX3 66 yX3_markIfRow, Cond.instanceMethod yX3_markIfRow, Cond.selects RX3 yX3_markIfRow yX3_markIfRow, Cond.code yX3_markIfRow cX3_markIfRow 2 none, Cond.methodLink RL 98 yX6_trace, Cond.instanceMethod yX6_trace, Cond.selects RX6 yX6_trace yX6_trace, Cond.code yX6_trace cX6_trace 2 (some .int), Cond.methodLink RX6 115 yX6_marks, Cond.instanceMethod yX6_marks, Cond.selects RX6 yX6_marks yX6_marks, Cond.code yX6_marks cX6_marks 5 (some .int), Cond.methodLink RL 99 yL_proof, Cond.static yL_proof, Cond.codeWith yL_proof cL_proof 5 (some .int) [(0, 10, 13, 13)], Cond.methodLink RL 41 yX5_proof, Cond.instanceMethod yX5_proof]
def wsL_law0_r20 : List Cond := [Cond.selects RX5 yX5_proof yX5_proof, Cond.code yX5_proof cX5_proof 3 (some .int), Cond.methodLink RX5 146 yX3_restMember, Cond.instanceMethod yX3_restMember, Cond.selects RX3 yX3_restMember yX3_restMember, Cond.code yX3_restMember cX3_restMember 5 (some .int), Cond.methodLink RL 101 yX6_proof, Cond.instanceMethod yX6_proof, Cond.selects RX6 yX6_proof yX6_proof, Cond.code yX6_proof cX6_proof 6 (some .int), Cond.methodLink RL 102 yL_rule, Cond.static yL_rule, Cond.codeWith yL_rule cL_rule 4 (some .int) [(0, 9, 12, 13)], Cond.methodLink RL 44 yX5_rule, Cond.instanceMethod yX5_rule, Cond.selects RX5 yX5_rule yX5_rule, Cond.code yX5_rule cX5_rule 2 (some .int), Cond.methodLink RX5 151 yX3_madeBy, Cond.instanceMethod yX3_madeBy, Cond.selects RX3 yX3_madeBy yX3_madeBy, Cond.code yX3_madeBy cX3_madeBy 4 (some .int), Cond.methodLink RL 104 yX6_rule, Cond.instanceMethod yX6_rule, Cond.selects RX6 yX6_rule yX6_rule]
def wsL_law0_r21 : List Cond := [Cond.code yX6_rule cX6_rule 4 (some .int), Cond.methodLink RL 105 yL_told, Cond.static yL_told, Cond.codeWith yL_told cL_told 4 (some .int) [(0, 9, 12, 13)], Cond.methodLink RL 47 yX5_told, Cond.instanceMethod yX5_told, Cond.selects RX5 yX5_told yX5_told, Cond.code yX5_told cX5_told 2 (some .int), Cond.methodLink RX5 154 yX3_size, Cond.methodLink RX5 155 yX3_literalSubjects, Cond.instanceMethod yX3_literalSubjects, Cond.selects RX3 yX3_literalSubjects yX3_literalSubjects, Cond.code yX3_literalSubjects cX3_literalSubjects 3 (some .int), Cond.methodLink RX5 158 yX3_membershipsBeyondAxioms, Cond.instanceMethod yX3_membershipsBeyondAxioms, Cond.selects RX3 yX3_membershipsBeyondAxioms yX3_membershipsBeyondAxioms, Cond.code yX3_membershipsBeyondAxioms cX3_membershipsBeyondAxioms 3 (some .int), Cond.methodLink RL 107 yX6_told, Cond.instanceMethod yX6_told, Cond.selects RX6 yX6_told yX6_told, Cond.code yX6_told cX6_told 5 (some .int)]
def wsL_law0 : List Cond := (wsL_law0_r1 ++ (wsL_law0_r2 ++ (wsL_law0_r3 ++ (wsL_law0_r4 ++ (wsL_law0_r5 ++ (wsL_law0_r6 ++ (wsL_law0_r7 ++ (wsL_law0_r8 ++ (wsL_law0_r9 ++ (wsL_law0_r10 ++ (wsL_law0_r11 ++ (wsL_law0_r12 ++ (wsL_law0_r13 ++ (wsL_law0_r14 ++ (wsL_law0_r15 ++ (wsL_law0_r16 ++ (wsL_law0_r17 ++ (wsL_law0_r18 ++ (wsL_law0_r19 ++ (wsL_law0_r20 ++ wsL_law0_r21)))))))))))))))))))) ++ wsX50 ++ wsX60 ++ wsX40 ++ wsX10 ++ wsX00 ++ wsX30 ++ wsX20 ++ ([] : List Cond)
def wsL_law : List Cond := wsL_law0 ++ (vx_atS RX5 59 "java/lang/IllegalArgumentException" ["java/lang/RuntimeException", "java/lang/Exception"]).filter goodWord ++ (vx_atS RX5 70 "java/lang/IllegalStateException" ["java/lang/RuntimeException", "java/lang/Exception"]).filter goodWord ++ (vx_atS RX5 128 "java/lang/UnsupportedOperationException" ["java/lang/RuntimeException", "java/lang/Exception"]).filter goodWord
abbrev vwCl : List vw_C := [(RX0, TX0, 3), (RX1, TX1, 4), (RX2, TX2, 8), (RX3, TX3, 12), (RX4, TX4, 2), (RX5, TX5, 6), (RX6, TX6, 16)]
end
section
/-! A layer over the kit: a symbolic state (world, room, pc, locals, stack) of one invocation X; each row turns it by one instruction. -/
abbrev zX : Type := va_G × (ClassId × ClassId × ClassId) × (Nat → Prop) × Program × Launch × Env × Room × State × MethodId × Array Value × List Frame × Method × Code × (State → Prop)
abbrev zX.D (X : zX) : va_G := X.1
abbrev zX.cI (X : zX) : ClassId := X.2.1.1
abbrev zX.cZ (X : zX) : ClassId := X.2.1.2.1
abbrev zX.cJ (X : zX) : ClassId := X.2.1.2.2
abbrev zX.A (X : zX) : Nat → Prop := X.2.2.1
abbrev zX.p (X : zX) : Program := X.2.2.2.1
abbrev zX.l (X : zX) : Launch := X.2.2.2.2.1
abbrev zX.e (X : zX) : Env := X.2.2.2.2.2.1
abbrev zX.R (X : zX) : Room := X.2.2.2.2.2.2.1
abbrev zX.s (X : zX) : State := X.2.2.2.2.2.2.2.1
abbrev zX.m (X : zX) : MethodId := X.2.2.2.2.2.2.2.2.1
abbrev zX.args (X : zX) : Array Value := X.2.2.2.2.2.2.2.2.2.1
abbrev zX.below (X : zX) : List Frame := X.2.2.2.2.2.2.2.2.2.2.1
abbrev zX.meth (X : zX) : Method := X.2.2.2.2.2.2.2.2.2.2.2.1
abbrev zX.c (X : zX) : Code := X.2.2.2.2.2.2.2.2.2.2.2.2.1
abbrev zX.Q (X : zX) : State → Prop := X.2.2.2.2.2.2.2.2.2.2.2.2.2
def zty (g : ClassId × ClassId × ClassId) : List (ClassId × FieldType) := [(g.1, .int), (g.2.1, .boolean), (g.2.2, .long)]
def zW (X : zX) (nL : Nat) (ws : va_W) (n1 n2 pc : Nat) (lv : List (Nat × Value)) (st : List Value) : Prop :=
  ∀ (H : Heap) (locs : List Loc) (ls : Array Slot), va_P X.D vwCl ws H → va_D X.A ws → va_S X.A X.s.heap H locs → lv_has ls nL lv → W X.p X.l X.e X.R X.s X.m X.args X.below X.meth X.c H locs n1 n2 X.Q (F0 X.m pc ls st)
def zC (X : zX) (cc : ByteArray) (nL : Nat) (own : String) (Ts : List Cond) (Rm : Room) : Prop :=
  X.p.tables.exec = Jvm.exec ∧ X.c.code = cc ∧ X.c.maxLocals = nL ∧ X.s.vm.findClass own = some X.m.cls ∧ (∀ w ∈ Ts, w.before X.args X.s = true) ∧ va_K X.D vwCl (zty X.2.1) X.s ∧ (∀ q, X.s.heap.size ≤ q → X.A q) ∧ X.R = Rm ∧ X.meth.locks = false
section ZR
variable {X : zX} {cc : ByteArray} {nL : Nat} {own : String} {Ts : List Cond} {Rm : Room} {ws : va_W} {n1 n2 pc q : Nat} {lv lv' : List (Nat × Value)} {st : List Value}
theorem zC.x (C : zC X cc nL own Ts Rm) : X.p.tables.exec = Jvm.exec := C.1
theorem zC.b (C : zC X cc nL own Ts Rm) : X.c.code = cc := C.2.1
theorem zC.ml (C : zC X cc nL own Ts Rm) : X.c.maxLocals = nL := C.2.2.1
theorem zC.ow (C : zC X cc nL own Ts Rm) : X.s.vm.findClass own = some X.m.cls := C.2.2.2.1
theorem zC.ts (C : zC X cc nL own Ts Rm) : ∀ w ∈ Ts, w.before X.args X.s = true := C.2.2.2.2.1
theorem zC.k (C : zC X cc nL own Ts Rm) : va_K X.D vwCl (zty X.2.1) X.s := C.2.2.2.2.2.1
theorem zC.a (C : zC X cc nL own Ts Rm) : ∀ q, X.s.heap.size ≤ q → X.A q := C.2.2.2.2.2.2.1
theorem zC.r (C : zC X cc nL own Ts Rm) : X.R = Rm := C.2.2.2.2.2.2.2.1
theorem zC.lk (C : zC X cc nL own Ts Rm) : X.meth.locks = false := C.2.2.2.2.2.2.2.2
/-- the locals by places, the world by places -/
theorem z_lv (ks : List Nat) (h : lv_pick lv ks = lv') (k : zW X nL ws n1 n2 pc lv' st) : zW X nL ws n1 n2 pc lv st :=
  fun H locs ls hP hD hS hl => k H locs ls hP hD hS (lv_sub hl ks h)
theorem z_ws {ws' : va_W} (is : List Nat) (hn : va_nd is = true) (h : is.map (fun i => ws[i]?) = ws'.map some) (k : zW X nL ws' n1 n2 pc lv st) : zW X nL ws n1 n2 pc lv st :=
  fun H locs ls hP hD hS hl => k H locs ls (hP.sub is (by
    have h2 : (is.map (fun i => ws[i]?)).filterMap id = (ws'.map some).filterMap id := by rw [h]
    rw [List.filterMap_map, List.filterMap_map] at h2
    have h3 : is.filterMap (fun i => ws[i]?) = ws'.filterMap some := h2
    rw [h3]; exact List.filterMap_some)) (hD.sub is hn h) hS hl
theorem z_eqi {x y : Int32} (h : x = y) (k : zW X nL ws n1 n2 pc lv (.int y :: st)) : zW X nL ws n1 n2 pc lv (.int x :: st) := by rw [h]; exact k
theorem z_widen {m1 m2 : Nat} (h1 : n1 ≤ m1) (h2 : n2 ≤ m2) (k : zW X nL ws m1 m2 pc lv st) : zW X nL ws n1 n2 pc lv st :=
  fun H locs ls hP hD hS hl => W.widen h1 h2 (k H locs ls hP hD hS hl)

theorem z_iconst (C : zC X cc nL own Ts Rm) {n : Int} {v : Int32} (hv : Int32.ofInt n = v) (hd : decode cc pc = .ok (.iconst n, 1)) (hq : pc + 1 = q) (k : zW X nL ws n1 n2 q lv (.int v :: st)) : zW X nL ws n1 n2 pc lv (st) := by
  subst hq
  exact fun H locs ls hP hD hS hl => lv_iconst C.x C.b hd hv (k H locs ls hP hD hS hl)
theorem z_bipush (C : zC X cc nL own Ts Rm) {n : Int} {v : Int32} (hv : (Int8.ofInt n).toInt32 = v) (hd : decode cc pc = .ok (.bipush n, 2)) (hq : pc + 2 = q) (k : zW X nL ws n1 n2 q lv (.int v :: st)) : zW X nL ws n1 n2 pc lv (st) := by
  subst hq
  exact fun H locs ls hP hD hS hl => lv_bipush C.x C.b hd hv (k H locs ls hP hD hS hl)
theorem z_sipush (C : zC X cc nL own Ts Rm) {n : Int} {v : Int32} (hv : (Int16.ofInt n).toInt32 = v) (hd : decode cc pc = .ok (.sipush n, 3)) (hq : pc + 3 = q) (k : zW X nL ws n1 n2 q lv (.int v :: st)) : zW X nL ws n1 n2 pc lv (st) := by
  subst hq
  exact fun H locs ls hP hD hS hl => lv_sipush C.x C.b hd hv (k H locs ls hP hD hS hl)
theorem z_ldc (C : zC X cc nL own Ts Rm) {index : Nat} {v : Int32} (hc : Cond.constant own index v ∈ Ts) (hd : decode cc pc = .ok (.ldc index, 2)) (hq : pc + 2 = q) (k : zW X nL ws n1 n2 q lv (.int v :: st)) : zW X nL ws n1 n2 pc lv (st) := by
  subst hq
  exact fun H locs ls hP hD hS hl => lv_ldc C.x C.b C.ow (C.ts _ hc) hd (k H locs ls hP hD hS hl)
theorem z_iload_n (C : zC X cc nL own Ts Rm) (k0 : Nat) {j : Fin 4} {i : Nat} {x : Int32} (hj : (j : Nat) = i) (hl0 : lv[k0]? = some (i, .int x)) (hd : decode cc pc = .ok (.iload_n j, 1)) (hq : pc + 1 = q) (k : zW X nL ws n1 n2 q lv (.int x :: st)) : zW X nL ws n1 n2 pc lv (st) := by
  subst hq
  exact fun H locs ls hP hD hS hl => lv_iload_n C.x C.b hd hj (lv_at hl k0 hl0) (k H locs ls hP hD hS hl)
theorem z_iload (C : zC X cc nL own Ts Rm) (k0 : Nat) {i : Nat} {x : Int32} (hl0 : lv[k0]? = some (i, .int x)) (hd : decode cc pc = .ok (.iload i, 2)) (hq : pc + 2 = q) (k : zW X nL ws n1 n2 q lv (.int x :: st)) : zW X nL ws n1 n2 pc lv (st) := by
  subst hq
  exact fun H locs ls hP hD hS hl => lv_iload C.x C.b hd (lv_at hl k0 hl0) (k H locs ls hP hD hS hl)
theorem z_aload_n (C : zC X cc nL own Ts Rm) (k0 : Nat) {j : Fin 4} {i a : Nat} (hj : (j : Nat) = i) (hl0 : lv[k0]? = some (i, .ref a)) (hd : decode cc pc = .ok (.aload_n j, 1)) (hq : pc + 1 = q) (k : zW X nL ws n1 n2 q lv (.ref a :: st)) : zW X nL ws n1 n2 pc lv (st) := by
  subst hq
  exact fun H locs ls hP hD hS hl => lv_aload_n C.x C.b hd hj (lv_at hl k0 hl0) (k H locs ls hP hD hS hl)
theorem z_aload (C : zC X cc nL own Ts Rm) (k0 : Nat) {i a : Nat} (hl0 : lv[k0]? = some (i, .ref a)) (hd : decode cc pc = .ok (.aload i, 2)) (hq : pc + 2 = q) (k : zW X nL ws n1 n2 q lv (.ref a :: st)) : zW X nL ws n1 n2 pc lv (st) := by
  subst hq
  exact fun H locs ls hP hD hS hl => lv_aload C.x C.b hd (lv_at hl k0 hl0) (k H locs ls hP hD hS hl)
theorem z_iadd (C : zC X cc nL own Ts Rm) {x y : Int32} (hd : decode cc pc = .ok (.iadd, 1)) (hq : pc + 1 = q) (k : zW X nL ws n1 n2 q lv (.int (x + y) :: st)) : zW X nL ws n1 n2 pc lv (.int y :: .int x :: st) := by
  subst hq
  exact fun H locs ls hP hD hS hl => lv_iadd C.x C.b hd (k H locs ls hP hD hS hl)
theorem z_isub (C : zC X cc nL own Ts Rm) {x y : Int32} (hd : decode cc pc = .ok (.isub, 1)) (hq : pc + 1 = q) (k : zW X nL ws n1 n2 q lv (.int (x - y) :: st)) : zW X nL ws n1 n2 pc lv (.int y :: .int x :: st) := by
  subst hq
  exact fun H locs ls hP hD hS hl => lv_isub C.x C.b hd (k H locs ls hP hD hS hl)
theorem z_imul (C : zC X cc nL own Ts Rm) {x y : Int32} (hd : decode cc pc = .ok (.imul, 1)) (hq : pc + 1 = q) (k : zW X nL ws n1 n2 q lv (.int (x * y) :: st)) : zW X nL ws n1 n2 pc lv (.int y :: .int x :: st) := by
  subst hq
  exact fun H locs ls hP hD hS hl => lv_imul C.x C.b hd (k H locs ls hP hD hS hl)
theorem z_iand (C : zC X cc nL own Ts Rm) {x y : Int32} (hd : decode cc pc = .ok (.iand, 1)) (hq : pc + 1 = q) (k : zW X nL ws n1 n2 q lv (.int (x &&& y) :: st)) : zW X nL ws n1 n2 pc lv (.int y :: .int x :: st) := by
  subst hq
  exact fun H locs ls hP hD hS hl => lv_iand C.x C.b hd (k H locs ls hP hD hS hl)
theorem z_idiv (C : zC X cc nL own Ts Rm) {x y : Int32} (h0 : ¬ y = 0) (hd : decode cc pc = .ok (.idiv, 1)) (hq : pc + 1 = q) (k : zW X nL ws n1 n2 q lv (.int (x / y) :: st)) : zW X nL ws n1 n2 pc lv (.int y :: .int x :: st) := by
  subst hq
  exact fun H locs ls hP hD hS hl => lv_idiv C.x C.b hd h0 (k H locs ls hP hD hS hl)
theorem z_irem (C : zC X cc nL own Ts Rm) {x y : Int32} (h0 : ¬ y = 0) (hd : decode cc pc = .ok (.irem, 1)) (hq : pc + 1 = q) (k : zW X nL ws n1 n2 q lv (.int (x - x / y * y) :: st)) : zW X nL ws n1 n2 pc lv (.int y :: .int x :: st) := by
  subst hq
  exact fun H locs ls hP hD hS hl => lv_irem C.x C.b hd h0 (k H locs ls hP hD hS hl)
theorem z_iushr (C : zC X cc nL own Ts Rm) {x y v : Int32} (hv : (x.toUInt32 >>> (y.toUInt32 &&& Int32.toUInt32 31)).toInt32 = v) (hd : decode cc pc = .ok (.iushr, 1)) (hq : pc + 1 = q) (k : zW X nL ws n1 n2 q lv (.int v :: st)) : zW X nL ws n1 n2 pc lv (.int y :: .int x :: st) := by
  subst hq
  exact fun H locs ls hP hD hS hl => lv_iushr C.x C.b hd hv (k H locs ls hP hD hS hl)
theorem z_i2l (C : zC X cc nL own Ts Rm) {x : Int32} {v : Int64} (hv : x.toInt64 = v) (hd : decode cc pc = .ok (.i2l, 1)) (hq : pc + 1 = q) (k : zW X nL ws n1 n2 q lv (.long v :: st)) : zW X nL ws n1 n2 pc lv (.int x :: st) := by
  subst hq
  exact fun H locs ls hP hD hS hl => lv_i2l C.x C.b hd hv (k H locs ls hP hD hS hl)
theorem z_lcmp (C : zC X cc nL own Ts Rm) {x y : Int64} (hd : decode cc pc = .ok (.lcmp, 1)) (hq : pc + 1 = q) (k : zW X nL ws n1 n2 q lv (.int (lg_cmp x y) :: st)) : zW X nL ws n1 n2 pc lv (.long y :: .long x :: st) := by
  subst hq
  exact fun H locs ls hP hD hS hl => W.lcmp C.x C.b hd (k H locs ls hP hD hS hl)
theorem z_dup (C : zC X cc nL own Ts Rm) {v : Value} (hv : v.category = 1) (hd : decode cc pc = .ok (.dup, 1)) (hq : pc + 1 = q) (k : zW X nL ws n1 n2 q lv (v :: v :: st)) : zW X nL ws n1 n2 pc lv (v :: st) := by
  subst hq
  exact fun H locs ls hP hD hS hl => lv_dup C.x C.b hd hv (k H locs ls hP hD hS hl)
theorem z_pop (C : zC X cc nL own Ts Rm) {v : Value} (hv : v.category = 1) (hd : decode cc pc = .ok (.pop, 1)) (hq : pc + 1 = q) (k : zW X nL ws n1 n2 q lv (st)) : zW X nL ws n1 n2 pc lv (v :: st) := by
  subst hq
  exact fun H locs ls hP hD hS hl => lv_pop C.x C.b hd hv (k H locs ls hP hD hS hl)
theorem z_istore_n (C : zC X cc nL own Ts Rm) {j : Fin 4} {i : Nat} {x : Int32} (hj : (j : Nat) = i) (hd : decode cc pc = .ok (.istore_n j, 1)) (hq : pc + 1 = q) (hn : i < nL) (hl0 : (i, Value.int x) :: lv.filter (fun q => !(q.1 == i) && !(q.1 + 1 == i && q.2.category == 2)) = lv') (k : zW X nL ws n1 n2 q lv' st) : zW X nL ws n1 n2 pc lv (.int x :: st) := by
  subst hq
  exact fun H locs ls hP hD hS hl => lv_istore_n C.x C.b hd hj hl hn hl0 (fun ls hl => k H locs ls hP hD hS hl)
theorem z_istore (C : zC X cc nL own Ts Rm) {i : Nat} {x : Int32} (hd : decode cc pc = .ok (.istore i, 2)) (hq : pc + 2 = q) (hn : i < nL) (hl0 : (i, Value.int x) :: lv.filter (fun q => !(q.1 == i) && !(q.1 + 1 == i && q.2.category == 2)) = lv') (k : zW X nL ws n1 n2 q lv' st) : zW X nL ws n1 n2 pc lv (.int x :: st) := by
  subst hq
  exact fun H locs ls hP hD hS hl => lv_istore C.x C.b hd hl hn hl0 (fun ls hl => k H locs ls hP hD hS hl)
theorem z_astore_n (C : zC X cc nL own Ts Rm) {j : Fin 4} {i a : Nat} (hj : (j : Nat) = i) (hd : decode cc pc = .ok (.astore_n j, 1)) (hq : pc + 1 = q) (hn : i < nL) (hl0 : (i, Value.ref a) :: lv.filter (fun q => !(q.1 == i) && !(q.1 + 1 == i && q.2.category == 2)) = lv') (k : zW X nL ws n1 n2 q lv' st) : zW X nL ws n1 n2 pc lv (.ref a :: st) := by
  subst hq
  exact fun H locs ls hP hD hS hl => lv_astore_n C.x C.b hd hj hl hn hl0 (fun ls hl => k H locs ls hP hD hS hl)
theorem z_astore (C : zC X cc nL own Ts Rm) {i a : Nat} (hd : decode cc pc = .ok (.astore i, 2)) (hq : pc + 2 = q) (hn : i < nL) (hl0 : (i, Value.ref a) :: lv.filter (fun q => !(q.1 == i) && !(q.1 + 1 == i && q.2.category == 2)) = lv') (k : zW X nL ws n1 n2 q lv' st) : zW X nL ws n1 n2 pc lv (.ref a :: st) := by
  subst hq
  exact fun H locs ls hP hD hS hl => lv_astore C.x C.b hd hl hn hl0 (fun ls hl => k H locs ls hP hD hS hl)
theorem z_iinc (C : zC X cc nL own Ts Rm) (k0 : Nat) {i : Nat} {n : Int} {x v : Int32} (hd : decode cc pc = .ok (.iinc i n, 3)) (hq : pc + 3 = q) (hl1 : lv[k0]? = some (i, .int x)) (hv : x + Int32.ofInt n = v) (hn : i < nL) (hl0 : (i, Value.int v) :: lv.filter (fun q => !(q.1 == i) && !(q.1 + 1 == i && q.2.category == 2)) = lv') (k : zW X nL ws n1 n2 q lv' st) : zW X nL ws n1 n2 pc lv st := by
  subst hq
  exact fun H locs ls hP hD hS hl => lv_iinc C.x C.b hd hl hl1 hv hn hl0 (fun ls hl => k H locs ls hP hD hS hl)
theorem z_if_eq (C : zC X cc nL own Ts Rm) {x : Int32} {off : Int} {tgt : Nat} (hd : decode cc pc = .ok (.ifCond .eq off, 3)) (ht : (pc : Int) + off = (tgt : Int)) (hq : pc + 3 = q) (kt : x = 0 → zW X nL ws n1 n2 tgt lv st) (kf : ¬ x = 0 → zW X nL ws n1 n2 q lv st) : zW X nL ws n1 n2 pc lv (.int x :: st) := by
  subst hq
  exact fun H locs ls hP hD hS hl => lv_if_eq C.x C.b hd ht (fun h => kt h H locs ls hP hD hS hl) (fun h => kf h H locs ls hP hD hS hl)
theorem z_if_ne (C : zC X cc nL own Ts Rm) {x : Int32} {off : Int} {tgt : Nat} (hd : decode cc pc = .ok (.ifCond .ne off, 3)) (ht : (pc : Int) + off = (tgt : Int)) (hq : pc + 3 = q) (kt : ¬ x = 0 → zW X nL ws n1 n2 tgt lv st) (kf : x = 0 → zW X nL ws n1 n2 q lv st) : zW X nL ws n1 n2 pc lv (.int x :: st) := by
  subst hq
  exact fun H locs ls hP hD hS hl => lv_if_ne C.x C.b hd ht (fun h => kt h H locs ls hP hD hS hl) (fun h => kf h H locs ls hP hD hS hl)
theorem z_if_lt (C : zC X cc nL own Ts Rm) {x : Int32} {off : Int} {tgt : Nat} (hd : decode cc pc = .ok (.ifCond .lt off, 3)) (ht : (pc : Int) + off = (tgt : Int)) (hq : pc + 3 = q) (kt : x < 0 → zW X nL ws n1 n2 tgt lv st) (kf : ¬ x < 0 → zW X nL ws n1 n2 q lv st) : zW X nL ws n1 n2 pc lv (.int x :: st) := by
  subst hq
  exact fun H locs ls hP hD hS hl => lv_if_lt C.x C.b hd ht (fun h => kt h H locs ls hP hD hS hl) (fun h => kf h H locs ls hP hD hS hl)
theorem z_if_ge (C : zC X cc nL own Ts Rm) {x : Int32} {off : Int} {tgt : Nat} (hd : decode cc pc = .ok (.ifCond .ge off, 3)) (ht : (pc : Int) + off = (tgt : Int)) (hq : pc + 3 = q) (kt : 0 ≤ x → zW X nL ws n1 n2 tgt lv st) (kf : ¬ 0 ≤ x → zW X nL ws n1 n2 q lv st) : zW X nL ws n1 n2 pc lv (.int x :: st) := by
  subst hq
  exact fun H locs ls hP hD hS hl => lv_if_ge C.x C.b hd ht (fun h => kt h H locs ls hP hD hS hl) (fun h => kf h H locs ls hP hD hS hl)
theorem z_if_gt (C : zC X cc nL own Ts Rm) {x : Int32} {off : Int} {tgt : Nat} (hd : decode cc pc = .ok (.ifCond .gt off, 3)) (ht : (pc : Int) + off = (tgt : Int)) (hq : pc + 3 = q) (kt : 0 < x → zW X nL ws n1 n2 tgt lv st) (kf : ¬ 0 < x → zW X nL ws n1 n2 q lv st) : zW X nL ws n1 n2 pc lv (.int x :: st) := by
  subst hq
  exact fun H locs ls hP hD hS hl => lv_if_gt C.x C.b hd ht (fun h => kt h H locs ls hP hD hS hl) (fun h => kf h H locs ls hP hD hS hl)
theorem z_if_le (C : zC X cc nL own Ts Rm) {x : Int32} {off : Int} {tgt : Nat} (hd : decode cc pc = .ok (.ifCond .le off, 3)) (ht : (pc : Int) + off = (tgt : Int)) (hq : pc + 3 = q) (kt : x ≤ 0 → zW X nL ws n1 n2 tgt lv st) (kf : ¬ x ≤ 0 → zW X nL ws n1 n2 q lv st) : zW X nL ws n1 n2 pc lv (.int x :: st) := by
  subst hq
  exact fun H locs ls hP hD hS hl => lv_if_le C.x C.b hd ht (fun h => kt h H locs ls hP hD hS hl) (fun h => kf h H locs ls hP hD hS hl)
theorem z_icmp_eq (C : zC X cc nL own Ts Rm) {x y : Int32} {off : Int} {tgt : Nat} (hd : decode cc pc = .ok (.if_icmp .eq off, 3)) (ht : (pc : Int) + off = (tgt : Int)) (hq : pc + 3 = q) (kt : x = y → zW X nL ws n1 n2 tgt lv st) (kf : ¬ x = y → zW X nL ws n1 n2 q lv st) : zW X nL ws n1 n2 pc lv (.int y :: .int x :: st) := by
  subst hq
  exact fun H locs ls hP hD hS hl => lv_icmp_eq C.x C.b hd ht (fun h => kt h H locs ls hP hD hS hl) (fun h => kf h H locs ls hP hD hS hl)
theorem z_icmp_ne (C : zC X cc nL own Ts Rm) {x y : Int32} {off : Int} {tgt : Nat} (hd : decode cc pc = .ok (.if_icmp .ne off, 3)) (ht : (pc : Int) + off = (tgt : Int)) (hq : pc + 3 = q) (kt : ¬ x = y → zW X nL ws n1 n2 tgt lv st) (kf : x = y → zW X nL ws n1 n2 q lv st) : zW X nL ws n1 n2 pc lv (.int y :: .int x :: st) := by
  subst hq
  exact fun H locs ls hP hD hS hl => lv_icmp_ne C.x C.b hd ht (fun h => kt h H locs ls hP hD hS hl) (fun h => kf h H locs ls hP hD hS hl)
theorem z_icmp_lt (C : zC X cc nL own Ts Rm) {x y : Int32} {off : Int} {tgt : Nat} (hd : decode cc pc = .ok (.if_icmp .lt off, 3)) (ht : (pc : Int) + off = (tgt : Int)) (hq : pc + 3 = q) (kt : x < y → zW X nL ws n1 n2 tgt lv st) (kf : ¬ x < y → zW X nL ws n1 n2 q lv st) : zW X nL ws n1 n2 pc lv (.int y :: .int x :: st) := by
  subst hq
  exact fun H locs ls hP hD hS hl => lv_icmp_lt C.x C.b hd ht (fun h => kt h H locs ls hP hD hS hl) (fun h => kf h H locs ls hP hD hS hl)
theorem z_icmp_ge (C : zC X cc nL own Ts Rm) {x y : Int32} {off : Int} {tgt : Nat} (hd : decode cc pc = .ok (.if_icmp .ge off, 3)) (ht : (pc : Int) + off = (tgt : Int)) (hq : pc + 3 = q) (kt : y ≤ x → zW X nL ws n1 n2 tgt lv st) (kf : ¬ y ≤ x → zW X nL ws n1 n2 q lv st) : zW X nL ws n1 n2 pc lv (.int y :: .int x :: st) := by
  subst hq
  exact fun H locs ls hP hD hS hl => lv_icmp_ge C.x C.b hd ht (fun h => kt h H locs ls hP hD hS hl) (fun h => kf h H locs ls hP hD hS hl)
theorem z_icmp_gt (C : zC X cc nL own Ts Rm) {x y : Int32} {off : Int} {tgt : Nat} (hd : decode cc pc = .ok (.if_icmp .gt off, 3)) (ht : (pc : Int) + off = (tgt : Int)) (hq : pc + 3 = q) (kt : y < x → zW X nL ws n1 n2 tgt lv st) (kf : ¬ y < x → zW X nL ws n1 n2 q lv st) : zW X nL ws n1 n2 pc lv (.int y :: .int x :: st) := by
  subst hq
  exact fun H locs ls hP hD hS hl => lv_icmp_gt C.x C.b hd ht (fun h => kt h H locs ls hP hD hS hl) (fun h => kf h H locs ls hP hD hS hl)
theorem z_icmp_le (C : zC X cc nL own Ts Rm) {x y : Int32} {off : Int} {tgt : Nat} (hd : decode cc pc = .ok (.if_icmp .le off, 3)) (ht : (pc : Int) + off = (tgt : Int)) (hq : pc + 3 = q) (kt : x ≤ y → zW X nL ws n1 n2 tgt lv st) (kf : ¬ x ≤ y → zW X nL ws n1 n2 q lv st) : zW X nL ws n1 n2 pc lv (.int y :: .int x :: st) := by
  subst hq
  exact fun H locs ls hP hD hS hl => lv_icmp_le C.x C.b hd ht (fun h => kt h H locs ls hP hD hS hl) (fun h => kf h H locs ls hP hD hS hl)
theorem z_goto (C : zC X cc nL own Ts Rm) {off : Int} {tgt : Nat} (hd : decode cc pc = .ok (.goto off, 3)) (ht : (pc : Int) + off = (tgt : Int)) (k : zW X nL ws n1 n2 tgt lv st) : zW X nL ws n1 n2 pc lv st :=
  fun H locs ls hP hD hS hl => lv_goto C.x C.b hd ht (k H locs ls hP hD hS hl)
theorem z_tableIn (C : zC X cc nL own Ts Rm) {dflt lo hi : Int} {offs : Array Int} {len : Nat} {x : Int32} {off : Int} {tgt : Nat} (hd : decode cc pc = .ok (.tableswitch dflt lo hi offs, len)) (h1 : ¬ x.toInt < lo) (h2 : ¬ hi < x.toInt) (ho : offs[(x.toInt - lo).toNat]? = some off) (ht : (pc : Int) + off = (tgt : Int)) (k : zW X nL ws n1 n2 tgt lv st) : zW X nL ws n1 n2 pc lv (.int x :: st) :=
  fun H locs ls hP hD hS hl => lv_tableIn C.x C.b hd h1 h2 ho ht (k H locs ls hP hD hS hl)
theorem z_tableOut (C : zC X cc nL own Ts Rm) {dflt lo hi : Int} {offs : Array Int} {len : Nat} {x : Int32} {tgt : Nat} (hd : decode cc pc = .ok (.tableswitch dflt lo hi offs, len)) (h : x.toInt < lo ∨ hi < x.toInt) (ht : (pc : Int) + dflt = (tgt : Int)) (k : zW X nL ws n1 n2 tgt lv st) : zW X nL ws n1 n2 pc lv (.int x :: st) :=
  fun H locs ls hP hD hS hl => lv_tableOut C.x C.b hd h ht (k H locs ls hP hD hS hl)
theorem z_lookup (C : zC X cc nL own Ts Rm) {dflt : Int} {ps : Array (Int × Int)} {len : Nat} {x : Int32} {off : Int} {tgt : Nat} (hd : decode cc pc = .ok (.lookupswitch dflt ps, len)) (hp : (ps.toList.zip (ps.toList.drop 1)).all (fun (a, next) => a.1 < next.1) = true) (ho : Op.lookupswitch.offset ps.toList dflt x.toInt = off) (ht : (pc : Int) + off = (tgt : Int)) (k : zW X nL ws n1 n2 tgt lv st) : zW X nL ws n1 n2 pc lv (.int x :: st) :=
  fun H locs ls hP hD hS hl => lv_lookup C.x C.b hd hp ho ht (k H locs ls hP hD hS hl)
/-- fields -/
theorem z_get (C : zC X cc nL own Ts Rm) {C0 : String} {T : u_T} {N ci index : Nat} (hin : ∀ w ∈ u_ws C0 T N, w ∈ Ts) (q0 : Nat) (k0 : Nat) {a : Nat} {fs : List Value} {v : Value} (he : ws[q0]? = some (a, .inr (ci, fs))) (hc : vwCl[ci]? = some (C0, T, N)) (hk : k0 < N) (hf : Cond.fieldLink own index (T k0).1 (T k0).2.1 (T k0).2.2.1 ∈ Ts) (hv : fs[k0]? = some v) (hd : decode cc pc = .ok (.getfield index, 3)) (hq : pc + 3 = q) (k : zW X nL ws n1 n2 q lv (v :: st)) : zW X nL ws n1 n2 pc lv (.ref a :: st) := by
  subst hq
  exact fun H locs ls hP hD hS hl => va_get C.x C.b C.ts hin C.ow C.k hP q0 he hc k0 hk (C.ts _ hf) (fun _ h => h) hv hd (k H locs ls hP hD hS hl)
theorem z_put (C : zC X cc nL own Ts Rm) {C0 : String} {T : u_T} {N ci index : Nat} (hin : ∀ w ∈ u_ws C0 T N, w ∈ Ts) {ty0 : Nat → FieldType} (hty : ∀ k, k < N → parseFieldDescriptor (T k).2.2.1 = some (ty0 k)) (hnm : ∀ a, a < N → ∀ b, b < N → a ≠ b → (T a).2.1 ≠ (T b).2.1) (q0 : Nat) (k0 : Nat) {a : Nat} {fs : List Value} {v : Value} {ws' : va_W} (he : ws[q0]? = some (a, .inr (ci, fs))) (hc : vwCl[ci]? = some (C0, T, N)) (hk : k0 < N) (hf : Cond.fieldLink own index (T k0).1 (T k0).2.1 (T k0).2.2.1 ∈ Ts) (hfin : (T k0).2.2.2 = false) (hn : narrow (ty0 k0) v = v) (hfit : fits (ty0 k0) v = true) (hl : k0 < fs.length) (hd : decode cc pc = .ok (.putfield index, 3)) (hq : pc + 3 = q) (hw : ws.set q0 (a, .inr (ci, fs.set k0 v)) = ws') (k : zW X nL ws' n1 n2 q lv st) : zW X nL ws n1 n2 pc lv (v :: .ref a :: st) := by
  subst hq
  subst hw
  exact fun H locs ls hP hD hS hl1 => va_put C.x C.b C.ts hin ty0 hty hnm C.ow C.k hP hD hS q0 he hc k0 hk (C.ts _ hf) (fun _ h => h) hfin (hty k0 hk) hn hfit hl hd (fun H1 locs1 hP hD hS => k H1 locs1 ls hP hD hS hl1)
theorem z_putF (C : zC X cc nL own Ts Rm) (hini : X.meth.name = "<init>") {T : u_T} {N ci index : Nat} (hin : ∀ w ∈ u_ws own T N, w ∈ Ts) {ty0 : Nat → FieldType} (hty : ∀ k, k < N → parseFieldDescriptor (T k).2.2.1 = some (ty0 k)) (hnm : ∀ a, a < N → ∀ b, b < N → a ≠ b → (T a).2.1 ≠ (T b).2.1) (q0 : Nat) (k0 : Nat) {a : Nat} {fs : List Value} {v : Value} {ws' : va_W} (he : ws[q0]? = some (a, .inr (ci, fs))) (hc : vwCl[ci]? = some (own, T, N)) (hk : k0 < N) (hf : Cond.fieldLink own index (T k0).1 (T k0).2.1 (T k0).2.2.1 ∈ Ts) (hfin : (T k0).2.2.2 = true) (hdecl : (T k0).1 = own) (hn : narrow (ty0 k0) v = v) (hfit : fits (ty0 k0) v = true) (hl : k0 < fs.length) (hd : decode cc pc = .ok (.putfield index, 3)) (hq : pc + 3 = q) (hw : ws.set q0 (a, .inr (ci, fs.set k0 v)) = ws') (k : zW X nL ws' n1 n2 q lv st) : zW X nL ws n1 n2 pc lv (v :: .ref a :: st) := by
  subst hq
  subst hw
  exact fun H locs ls hP hD hS hl1 => va_putF C.x C.b C.ts hin ty0 hty hnm C.ow C.k hP hD hS q0 he hc k0 hk (C.ts _ hf) (fun _ h => h) hfin hini hdecl (hty k0 hk) hn hfit hl hd (fun H1 locs1 hP hD hS => k H1 locs1 ls hP hD hS hl1)
/-- arrays, the place by its number -/
theorem z_iald (C : zC X cc nL own Ts Rm) (q0 : Nat) {a n : Nat} {f : Nat → Int32} (ha : ws[q0]? = some (a, .inl (X.cI, n, .inl f))) {i : Nat} (hi : i < n) (hn : n < 2 ^ 31) (hd : decode cc pc = .ok (.iaload, 1)) (hq : pc + 1 = q) (k : zW X nL ws n1 n2 q lv (.int (f i) :: st)) : zW X nL ws n1 n2 pc lv (.int (nI i) :: .ref a :: st) := by
  subst hq
  refine fun H locs ls hP hD hS hl => va_iald C.x C.b C.k hP q0 0 ha rfl (vp_in_nI hi hn) hd ?_
  rw [nI_clamp (Nat.lt_trans hi hn)]
  exact k H locs ls hP hD hS hl
theorem z_zald (C : zC X cc nL own Ts Rm) (q0 : Nat) {a n : Nat} {f : Nat → Int32} (ha : ws[q0]? = some (a, .inl (X.cZ, n, .inl f))) {i : Nat} (hi : i < n) (hn : n < 2 ^ 31) (hd : decode cc pc = .ok (.baload, 1)) (hq : pc + 1 = q) (k : zW X nL ws n1 n2 q lv (.int (f i) :: st)) : zW X nL ws n1 n2 pc lv (.int (nI i) :: .ref a :: st) := by
  subst hq
  refine fun H locs ls hP hD hS hl => va_zald C.x C.b C.k hP q0 1 ha rfl (vp_in_nI hi hn) hd ?_
  rw [nI_clamp (Nat.lt_trans hi hn)]
  exact k H locs ls hP hD hS hl
theorem z_lald (C : zC X cc nL own Ts Rm) (q0 : Nat) {a n : Nat} {f : Nat → Int64} (ha : ws[q0]? = some (a, .inl (X.cJ, n, .inr (.inl f)))) {i : Nat} (hi : i < n) (hn : n < 2 ^ 31) (hd : decode cc pc = .ok (.laload, 1)) (hq : pc + 1 = q) (k : zW X nL ws n1 n2 q lv (.long (f i) :: st)) : zW X nL ws n1 n2 pc lv (.int (nI i) :: .ref a :: st) := by
  subst hq
  refine fun H locs ls hP hD hS hl => va_lald C.x C.b C.k hP q0 2 ha rfl (vp_in_nI hi hn) hd ?_
  rw [nI_clamp (Nat.lt_trans hi hn)]
  exact k H locs ls hP hD hS hl
theorem z_iast (C : zC X cc nL own Ts Rm) (q0 : Nat) {a n : Nat} {f : Nat → Int32} (ha : ws[q0]? = some (a, .inl (X.cI, n, .inl f))) {i : Nat} {x : Int32} {ws' : va_W} (hi : i < n) (hn : n < 2 ^ 31) (hd : decode cc pc = .ok (.iastore, 1)) (hq : pc + 1 = q) (hw : ws.set q0 (a, .inl (X.cI, n, .inl (upd f i x))) = ws') (k : zW X nL ws' n1 n2 q lv st) : zW X nL ws n1 n2 pc lv (.int x :: .int (nI i) :: .ref a :: st) := by
  subst hq
  subst hw
  refine fun H locs ls hP hD hS hl => va_iast C.x C.b C.k hP hD hS q0 0 ha rfl (vp_in_nI hi hn) hd ?_
  rw [nI_clamp (Nat.lt_trans hi hn)]
  exact fun H1 locs1 hP hD hS => k H1 locs1 ls hP hD hS hl
theorem z_zast (C : zC X cc nL own Ts Rm) (q0 : Nat) {a n : Nat} {f : Nat → Int32} (ha : ws[q0]? = some (a, .inl (X.cZ, n, .inl f))) {i : Nat} {x : Int32} {ws' : va_W} (hx : vp_nar .boolean x = x) (hi : i < n) (hn : n < 2 ^ 31) (hd : decode cc pc = .ok (.bastore, 1)) (hq : pc + 1 = q) (hw : ws.set q0 (a, .inl (X.cZ, n, .inl (upd f i x))) = ws') (k : zW X nL ws' n1 n2 q lv st) : zW X nL ws n1 n2 pc lv (.int x :: .int (nI i) :: .ref a :: st) := by
  subst hq
  subst hw
  refine fun H locs ls hP hD hS hl => va_zast C.x C.b C.k hP hD hS q0 1 ha rfl (vp_in_nI hi hn) hd ?_
  rw [nI_clamp (Nat.lt_trans hi hn), hx]
  exact fun H1 locs1 hP hD hS => k H1 locs1 ls hP hD hS hl
theorem z_last (C : zC X cc nL own Ts Rm) (q0 : Nat) {a n : Nat} {f : Nat → Int64} (ha : ws[q0]? = some (a, .inl (X.cJ, n, .inr (.inl f)))) {i : Nat} {x : Int64} {ws' : va_W} (hi : i < n) (hn : n < 2 ^ 31) (hd : decode cc pc = .ok (.lastore, 1)) (hq : pc + 1 = q) (hw : ws.set q0 (a, .inl (X.cJ, n, .inr (.inl (vp_updL f i x)))) = ws') (k : zW X nL ws' n1 n2 q lv st) : zW X nL ws n1 n2 pc lv (.long x :: .int (nI i) :: .ref a :: st) := by
  subst hq
  subst hw
  refine fun H locs ls hP hD hS hl => va_last C.x C.b C.k hP hD hS q0 2 ha rfl (vp_in_nI hi hn) hd ?_
  rw [nI_clamp (Nat.lt_trans hi hn)]
  exact fun H1 locs1 hP hD hS => k H1 locs1 ls hP hD hS hl
theorem z_alen (C : zC X cc nL own Ts Rm) (q0 : Nat) {a n : Nat} {f : Nat → Int32} (ha : ws[q0]? = some (a, .inl (X.cI, n, .inl f))) (hd : decode cc pc = .ok (.arraylength, 1)) (hq : pc + 1 = q) (k : zW X nL ws n1 n2 q lv (.int (nI n) :: st)) : zW X nL ws n1 n2 pc lv (.ref a :: st) := by
  subst hq
  exact fun H locs ls hP hD hS hl => va_alen C.x C.b C.k hP q0 0 ha rfl rfl hd (k H locs ls hP hD hS hl)
end ZR
end
section
/-! contracts over worlds: zM; a method's entry, its returns, calls -/
def zPre (D : va_G) (g : ClassId × ClassId × ClassId) (sz : Nat) (w : va_W) : State → Prop := fun U => U.heap.size = sz ∧ va_P D vwCl w U.heap ∧ va_K D vwCl (zty g) U ∧ va_D (fun _ => True) w
def zPost (D : va_G) (A : Nat → Prop) (post : Option Value → va_W → Prop) : Array Value → State → Outcome → State → Prop := fun _ st oc t => ∃ (v : Option Value) (w1 : va_W), oc = .returned v ∧ post v w1 ∧ va_P D vwCl w1 t.heap ∧ va_D A w1 ∧ va_F A st t
def zM (l : Launch) (y : MethodName) (Ts : List Cond) (Rm : Room) (D : va_G) (g : ClassId × ClassId × ClassId) (av : List Value) (w : va_W) (mc ms : Nat) (post : Option Value → va_W → Prop) : Prop :=
  ∀ sz : Nat, Met l y Ts Rm (va_Pc av (zPre D g sz w)) (zPost D (va_A w sz) post) mc ms (va_A w sz)
/-- what a body owes at its end -/
def zE (X : zX) (ret : Option FieldType) (mc ms : Nat) (post : Option Value → va_W → Prop) : Prop := X.meth.sig.returnType = ret ∧ X.Q = MQ X.below (zPost X.D X.A post) X.args X.s mc ms X.A
theorem zPre_blind (D : va_G) (g : ClassId × ClassId × ClassId) (sz : Nat) (av : List Value) (w : va_W) : FrameBlind (va_Pc av (zPre D g sz w)) := fun a U f mk q => by
  obtain ⟨q0, q1, qP, qK, qD⟩ := q
  exact ⟨q0, q1, qP, va_K.moved (u := U) (U := U.calling f mk a) (Vm.Alike.refl U.vm) qK, qD⟩
theorem z_met {l : Launch} {y : MethodName} {Ts Ts' : List Cond} {Rm : Room} {D : va_G} {g : ClassId × ClassId × ClassId} {av : List Value} {w : va_W} {mc ms : Nat} {post : Option Value → va_W → Prop} {cc : ByteArray} {maxL : Nat} {ret : Option FieldType} {lv : List (Nat × Value)}
    (hy : plainName y.cls = true) (hw : Ts = .code y cc maxL ret :: Ts') (hlen : (lg_sl av).length ≤ maxL) (hlv : lv_args 0 av = lv)
    (body : ∀ X : zX, X.D = D → X.2.1 = g → X.l = l → X.meth.name = y.name → zC X cc maxL y.cls Ts Rm → zE X ret mc ms post → zW X maxL w 0 0 0 lv []) : zM l y Ts Rm D g av w mc ms post := by
  intro sz
  refine Met.ofW (cc := cc) (maxL := maxL) (ret := ret) hy hw ?_
  intro p e s m args below meth c s₁ B hml hv
  obtain ⟨rfl, hsz, hP, hK, hD0⟩ := hv
  have hts := atoms_spec (ws := Ts) B.pre
  have hown : s.vm.findClass y.cls = some m.cls := findClass_of_methodNamed B.named
  have hname : meth.name = y.name := (name_of_methodNamed B.named B.method).1
  subst hsz
  have hD := hD0.self (sz := s.heap.size)
  have hl := lv_entry av (n := maxL) hlen
  have key := body (D, g, va_A w s.heap.size, p, l, e, (headSpec Ts Rm).room, s, m, av.toArray, below, meth, c, MQ below (zPost D (va_A w s.heap.size) post) av.toArray s mc ms (va_A w s.heap.size)) rfl rfl rfl hname
    ⟨B.exec, B.bytes, hml, hown, hts, hK, fun q h => Or.inr h, rfl, B.notSynchronized⟩ ⟨B.returns, rfl⟩ s.heap [] _ hP hD va_S.rf (by rw [← hlv]; exact hl)
  rw [lg_entry_eq]
  exact key
section ZE
variable {X : zX} {cc : ByteArray} {nL : Nat} {own : String} {Ts : List Cond} {Rm : Room} {ws : va_W} {n1 n2 pc q mc ms : Nat} {lv lv' : List (Nat × Value)} {st : List Value} {post : Option Value → va_W → Prop}
theorem z_iret (C : zC X cc nL own Ts Rm) (E : zE X (some .int) mc ms post) (h1 : n1 ≤ mc) (h2 : n2 ≤ ms) {v : Int32} (hd : decode cc pc = .ok (.ireturn, 1)) (hp : post (some (.int v)) ws) : zW X nL ws n1 n2 pc lv [.int v] := by
  intro H locs ls hP hD hS hl
  rw [show X.Q = _ from E.2]
  exact W.widen h1 h2 (W.iret C.x C.b E.1 (fun t ht hW => ⟨_, ws, rfl, hp, by rw [ht]; exact hP, hD, hS.F ht⟩) hS.2.2 hd C.lk)
theorem z_zret (C : zC X cc nL own Ts Rm) (E : zE X (some .boolean) mc ms post) (h1 : n1 ≤ mc) (h2 : n2 ≤ ms) {v : Int32} (hn : narrow .boolean (.int v) = .int v) (hd : decode cc pc = .ok (.ireturn, 1)) (hp : post (some (.int v)) ws) : zW X nL ws n1 n2 pc lv [.int v] := by
  intro H locs ls hP hD hS hl
  rw [show X.Q = _ from E.2]
  exact W.widen h1 h2 (W.zret C.x C.b E.1 hn (fun t ht hW => ⟨_, ws, rfl, hp, by rw [ht]; exact hP, hD, hS.F ht⟩) hS.2.2 hd C.lk)
theorem z_vret (C : zC X cc nL own Ts Rm) (E : zE X none mc ms post) (h1 : n1 ≤ mc) (h2 : n2 ≤ ms) (hd : decode cc pc = .ok (.return_, 1)) (hp : post none ws) : zW X nL ws n1 n2 pc lv [] := by
  intro H locs ls hP hD hS hl
  rw [show X.Q = _ from E.2]
  exact W.widen h1 h2 (W.vret C.x C.b E.1 (fun t ht hW => ⟨_, ws, rfl, hp, by rw [ht]; exact hP, hD, hS.F ht⟩) hS.2.2 hd C.lk)
theorem z_aret (C : zC X cc nL own Ts Rm) {rt : FieldType} (E : zE X (some rt) mc ms post) (h1 : n1 ≤ mc) (h2 : n2 ≤ ms) (hrt : (∃ n, rt = .object n) ∨ ∃ t, rt = .array t) {a : Nat} (hd : decode cc pc = .ok (.areturn, 1)) (hp : post (some (.ref a)) ws) : zW X nL ws n1 n2 pc lv [.ref a] := by
  intro H locs ls hP hD hS hl
  rw [show X.Q = _ from E.2]
  exact W.widen h1 h2 (W.aret C.x C.b E.1 hrt (Or.inr ⟨_, rfl⟩) (fun t ht hW => ⟨_, ws, rfl, hp, by rw [ht]; exact hP, hD, hS.F ht⟩) hS.2.2 hd C.lk)
/-- a call's end: the rest of the world, and what came back -/
theorem z_back {y : MethodName} {wc wr : va_W} {rest st0 : List Value} {a : Array Value} (hr : ∀ (H : Heap) (locs : List Loc) (ls : Array Slot), va_P X.D vwCl ws H → va_D X.A ws → va_S X.A X.s.heap H locs → (∀ q, va_A wc H.size q → X.A q) → lv_has ls nL lv → va_Run X.p X.l X.e X.R X.s X.m X.args X.below X.meth X.c H locs n1 n2 mc ms (F0 X.m pc ls st0) rest (zPost X.D (va_A wc H.size) post a) (va_A wc H.size))
    (hA : ∀ q, X.s.heap.size ≤ q → X.A q) (isC isR : List Nat) (hC : isC.map (fun i => ws[i]?) = wc.map some) (hR : isR.map (fun i => ws[i]?) = wr.map some) (hn : va_nd isR = true) (hdis : ∀ i ∈ isR, i ∉ isC) (hq : pc + 3 = q)
    (k : ∀ (v : Option Value) (w1 : va_W), post v w1 → zW X nL (wr ++ w1) (n1 + mc) (n2 + ms) q lv (v.toList ++ rest)) : zW X nL ws n1 n2 pc lv st0 := by
  subst hq
  intro H locs ls hP hD hS hl T hT St
  have hFc := va_free (wc := wc) hD hS hA isC hC
  obtain ⟨v, st₀, t, T', L, h0, X', hL, e1, e2, ⟨v', w1, hv, hp, hP1, hD1, hz, hk⟩, go⟩ := hr H locs ls hP hD hS hFc hl T hT St
  cases hv
  rw [h0] at hz hk
  rw [← e1] at hP1 hz hk
  obtain ⟨hP2, hD2⟩ := va_join (wr := wr) (w1 := w1) hP hD isC isR hC hR hn hdis hk hFc hP1 hD1
  have hS2 : va_S X.A X.s.heap T'.heap (locs ++ L) := ⟨Nat.le_trans hS.1 hz, fun q h1 h2 => by rw [hk q (Nat.lt_of_lt_of_le h1 hS.1) (fun z => h2 (hFc q z))]; exact hS.2.1 q h1 h2, fun q hq => by
      rcases List.mem_append.mp hq with h | h
      · exact hS.2.2 q h
      · exact hFc _ (hL q h)⟩
  obtain ⟨t2, a1, b1⟩ := k v w1 hp T'.heap (locs ++ L) ls hP2 hD2 hS2 hl T' rfl X'
  exact ⟨t2, go t2 a1, b1⟩
theorem z_callV (C : zC X cc nL own Ts Rm) {y : MethodName} {bytes : ByteArray} {maxL n index : Nat} {ret : Option FieldType} {wsC wsC' : List Cond} {rmC : Room} {C0 : String} {b : Nat} {As rest : List Value} {wc wr : va_W} (hM : zM X.l y wsC rmC X.D X.2.1 (.ref b :: As) wc mc ms post) (hG : GoodIn Ts (wsV own index C0 y wsC)) (hws : wsC = .code y bytes maxL ret :: wsC') (hrc : rmC.cells = mc) (hrs : rmC.slots = ms)
    (hcl : y.cls = C0 ∧ y.cls ≠ "java/lang/invoke/MethodHandle" ∧ y.cls ≠ "java/lang/invoke/VarHandle" ∧ (parseMethodDescriptor y.desc).map (fun d => d.parameters.length) = some n) (hroom : rmC.frames + 1 ≤ Rm.frames ∧ 8 + (maxL + 11) + rmC.locals ≤ Rm.locals) (hcells : n1 + mc ≤ Rm.cells ∧ n2 + ms ≤ Rm.slots)
    (q0 ci : Nat) {fs : List Value} {T : u_T} {N : Nat} (hb : wc[q0]? = some (b, .inr (ci, fs))) (hci : vwCl[ci]? = some (C0, T, N)) (isC isR : List Nat) (hC : isC.map (fun i => ws[i]?) = wc.map some) (hR : isR.map (fun i => ws[i]?) = wr.map some) (hnC : va_nd isC = true) (hn : va_nd isR = true) (hdis : ∀ i ∈ isR, i ∉ isC)
    (hAs : As.length = n) (hst : st = As.reverse ++ .ref b :: rest) (hcat : (rest.map fun v => v.category).sum ≤ 8) (hd : decode cc pc = .ok (.invokevirtual index, 3)) (hq : pc + 3 = q)
    (k : ∀ (v : Option Value) (w1 : va_W), post v w1 → zW X nL (wr ++ w1) (n1 + mc) (n2 + ms) q lv (v.toList ++ rest)) : zW X nL ws n1 n2 pc lv st := by
  refine z_back (y := y) (wc := wc) (wr := wr) (rest := rest) (a := (Value.ref b :: As).toArray) ?_ C.a isC isR hC hR hn hdis hq k
  intro H locs ls hP hD hS hFc hl
  have hPc : va_P X.D vwCl wc H := fun j x hx => by
    have h1 : (isC.map (fun i => ws[i]?))[j]? = some (some x) := by rw [hC, List.getElem?_map, hx]; rfl
    rw [List.getElem?_map] at h1
    cases hi : isC[j]? with
    | none => rw [hi] at h1; cases h1
    | some i => rw [hi] at h1; exact hP i x (Option.some.inj h1)
  have hDc := hD.sub isC hnC hC
  exact va_runV (As := As) (rest := rest) ⟨C.x, C.b, C.ml, C.ow, C.ts⟩ (hM H.size) (cwV n C.ts hG hws hrc hrs hcl (by rw [C.r]; exact hroom)) ⟨zPre_blind _ _ _ _ _, va_recv C.k hPc hci hb, fun U hU hW => ⟨rfl, by rw [hU], by rw [hU]; exact hPc, va_K.moved hW.alike C.k, hDc.weaken (fun _ _ _ _ => trivial)⟩⟩ rfl hAs hl.1 hst (lv_room hcat) hd (by rw [C.r]; exact hcells)
theorem z_callS (C : zC X cc nL own Ts Rm) {y : MethodName} {bytes : ByteArray} {maxL n index : Nat} {ret : Option FieldType} {wsC wsC' : List Cond} {rmC : Room} {As rest : List Value} {wc wr : va_W} (hM : zM X.l y wsC rmC X.D X.2.1 As wc mc ms post) (hG : GoodIn Ts (va_wsS own index y wsC)) (hws : wsC = .code y bytes maxL ret :: wsC') (hrc : rmC.cells = mc) (hrs : rmC.slots = ms)
    (hcl : y.cls ≠ "java/lang/invoke/MethodHandle" ∧ y.cls ≠ "java/lang/invoke/VarHandle" ∧ (parseMethodDescriptor y.desc).map (fun d => d.parameters.length) = some n) (hroom : rmC.frames + 1 ≤ Rm.frames ∧ 8 + (maxL + 11) + rmC.locals ≤ Rm.locals) (hcells : n1 + mc ≤ Rm.cells ∧ n2 + ms ≤ Rm.slots)
    (isC isR : List Nat) (hC : isC.map (fun i => ws[i]?) = wc.map some) (hR : isR.map (fun i => ws[i]?) = wr.map some) (hnC : va_nd isC = true) (hn : va_nd isR = true) (hdis : ∀ i ∈ isR, i ∉ isC)
    (hAs : As.length = n) (hst : st = As.reverse ++ rest) (hcat : (rest.map fun v => v.category).sum ≤ 8) (hd : decode cc pc = .ok (.invokestatic index, 3)) (hq : pc + 3 = q)
    (k : ∀ (v : Option Value) (w1 : va_W), post v w1 → zW X nL (wr ++ w1) (n1 + mc) (n2 + ms) q lv (v.toList ++ rest)) : zW X nL ws n1 n2 pc lv st := by
  refine z_back (y := y) (wc := wc) (wr := wr) (rest := rest) (a := As.toArray) ?_ C.a isC isR hC hR hn hdis hq k
  intro H locs ls hP hD hS hFc hl
  have hPc : va_P X.D vwCl wc H := fun j x hx => by
    have h1 : (isC.map (fun i => ws[i]?))[j]? = some (some x) := by rw [hC, List.getElem?_map, hx]; rfl
    rw [List.getElem?_map] at h1
    cases hi : isC[j]? with
    | none => rw [hi] at h1; cases h1
    | some i => rw [hi] at h1; exact hP i x (Option.some.inj h1)
  have hDc := hD.sub isC hnC hC
  exact va_runS (As := As) (rest := rest) ⟨C.x, C.b, C.ml, C.ow, C.ts⟩ (hM H.size) (va_cwS n C.ts hG hws hrc hrs hcl (by rw [C.r]; exact hroom)) ⟨zPre_blind _ _ _ _ _, fun U hU hW => ⟨rfl, by rw [hU], by rw [hU]; exact hPc, va_K.moved hW.alike C.k, hDc.weaken (fun _ _ _ _ => trivial)⟩⟩ rfl hAs hl.1 hst (lv_room hcat) hd (by rw [C.r]; exact hcells)
end ZE
end
section
theorem dX0_init_0 : decode cX0_init 0 = .ok (.aload_n 0, 1) := by decide +kernel
theorem dX0_init_1 : decode cX0_init 1 = .ok (.invokespecial 3, 3) := by decide +kernel
theorem dX0_init_4 : decode cX0_init 4 = .ok (.aload_n 0, 1) := by decide +kernel
theorem dX0_init_5 : decode cX0_init 5 = .ok (.iconst 0, 1) := by decide +kernel
theorem dX0_init_6 : decode cX0_init 6 = .ok (.putfield 9, 3) := by decide +kernel
theorem dX0_init_9 : decode cX0_init 9 = .ok (.aload_n 0, 1) := by decide +kernel
theorem dX0_init_10 : decode cX0_init 10 = .ok (.bipush 9, 2) := by decide +kernel
theorem dX0_init_12 : decode cX0_init 12 = .ok (.putfield 15, 3) := by decide +kernel
theorem dX0_init_15 : decode cX0_init 15 = .ok (.aload_n 0, 1) := by decide +kernel
theorem dX0_init_16 : decode cX0_init 16 = .ok (.iload_n 1, 1) := by decide +kernel
theorem dX0_init_17 : decode cX0_init 17 = .ok (.putfield 19, 3) := by decide +kernel
theorem dX0_init_20 : decode cX0_init 20 = .ok (.return_, 1) := by decide +kernel
theorem dX0_ask_0 : decode cX0_ask 0 = .ok (.aload_n 0, 1) := by decide +kernel
theorem dX0_ask_1 : decode cX0_ask 1 = .ok (.iload_n 1, 1) := by decide +kernel
theorem dX0_ask_2 : decode cX0_ask 2 = .ok (.putfield 9, 3) := by decide +kernel
theorem dX0_ask_5 : decode cX0_ask 5 = .ok (.return_, 1) := by decide +kernel
theorem dX0_setCount_0 : decode cX0_setCount 0 = .ok (.aload_n 0, 1) := by decide +kernel
theorem dX0_setCount_1 : decode cX0_setCount 1 = .ok (.iload_n 1, 1) := by decide +kernel
theorem dX0_setCount_2 : decode cX0_setCount 2 = .ok (.putfield 15, 3) := by decide +kernel
theorem dX0_setCount_5 : decode cX0_setCount 5 = .ok (.return_, 1) := by decide +kernel
theorem dX0_memberships_0 : decode cX0_memberships 0 = .ok (.aload_n 0, 1) := by decide +kernel
theorem dX0_memberships_1 : decode cX0_memberships 1 = .ok (.getfield 9, 3) := by decide +kernel
theorem dX0_memberships_4 : decode cX0_memberships 4 = .ok (.ifCond .eq 17, 3) := by decide +kernel
theorem dX0_memberships_7 : decode cX0_memberships 7 = .ok (.aload_n 0, 1) := by decide +kernel
theorem dX0_memberships_8 : decode cX0_memberships 8 = .ok (.getfield 19, 3) := by decide +kernel
theorem dX0_memberships_11 : decode cX0_memberships 11 = .ok (.ifCond .eq 10, 3) := by decide +kernel
theorem dX0_memberships_14 : decode cX0_memberships 14 = .ok (.aload_n 0, 1) := by decide +kernel
theorem dX0_memberships_15 : decode cX0_memberships 15 = .ok (.getfield 15, 3) := by decide +kernel
theorem dX0_memberships_18 : decode cX0_memberships 18 = .ok (.goto 4, 3) := by decide +kernel
theorem dX0_memberships_21 : decode cX0_memberships 21 = .ok (.iconst 0, 1) := by decide +kernel
theorem dX0_memberships_22 : decode cX0_memberships 22 = .ok (.ireturn, 1) := by decide +kernel
set_option maxRecDepth 20000 in
theorem ggX0_contains_X0_size : GoodIn wsX0_contains wsX0_size := goodIn_r _ [5, 6, 7, 8, 9, 4, 10, 11, 12, 27, 28, 29] (by decide +kernel) (by decide +kernel)
set_option maxRecDepth 20000 in
theorem gX0_contains_X0_size : GoodIn wsX0_contains (wsV RX0 22 RX0 yX0_size wsX0_size) := goodIn_app (goodIn_of _ (by decide +kernel)) ggX0_contains_X0_size
set_option maxRecDepth 20000 in
theorem ggX0_contains_X0_subject : GoodIn wsX0_contains wsX0_subject := goodIn_r _ [16, 17] (by decide +kernel) (by decide +kernel)
set_option maxRecDepth 20000 in
theorem gX0_contains_X0_subject : GoodIn wsX0_contains (wsV RX0 26 RX0 yX0_subject wsX0_subject) := goodIn_app (goodIn_of _ (by decide +kernel)) ggX0_contains_X0_subject
set_option maxRecDepth 20000 in
theorem ggX0_contains_X0_property : GoodIn wsX0_contains wsX0_property := goodIn_r _ [21, 17, 22] (by decide +kernel) (by decide +kernel)
set_option maxRecDepth 20000 in
theorem gX0_contains_X0_property : GoodIn wsX0_contains (wsV RX0 30 RX0 yX0_property wsX0_property) := goodIn_app (goodIn_of _ (by decide +kernel)) ggX0_contains_X0_property
set_option maxRecDepth 20000 in
theorem ggX0_contains_X0_object : GoodIn wsX0_contains wsX0_object := goodIn_r _ [26, 17, 22] (by decide +kernel) (by decide +kernel)
set_option maxRecDepth 20000 in
theorem gX0_contains_X0_object : GoodIn wsX0_contains (wsV RX0 33 RX0 yX0_object wsX0_object) := goodIn_app (goodIn_of _ (by decide +kernel)) ggX0_contains_X0_object
theorem dX0_contains_0 : decode cX0_contains 0 = .ok (.aload_n 0, 1) := by decide +kernel
theorem dX0_contains_1 : decode cX0_contains 1 = .ok (.invokevirtual 22, 3) := by decide +kernel
theorem dX0_contains_4 : decode cX0_contains 4 = .ok (.istore 4, 2) := by decide +kernel
theorem dX0_contains_6 : decode cX0_contains 6 = .ok (.iconst 0, 1) := by decide +kernel
theorem dX0_contains_7 : decode cX0_contains 7 = .ok (.istore 5, 2) := by decide +kernel
theorem dX0_contains_9 : decode cX0_contains 9 = .ok (.iload 5, 2) := by decide +kernel
theorem dX0_contains_11 : decode cX0_contains 11 = .ok (.iload 4, 2) := by decide +kernel
theorem dX0_contains_13 : decode cX0_contains 13 = .ok (.if_icmp .ge 41, 3) := by decide +kernel
theorem dX0_contains_16 : decode cX0_contains 16 = .ok (.aload_n 0, 1) := by decide +kernel
theorem dX0_contains_17 : decode cX0_contains 17 = .ok (.iload 5, 2) := by decide +kernel
theorem dX0_contains_19 : decode cX0_contains 19 = .ok (.invokevirtual 26, 3) := by decide +kernel
theorem dX0_contains_22 : decode cX0_contains 22 = .ok (.iload_n 1, 1) := by decide +kernel
theorem dX0_contains_23 : decode cX0_contains 23 = .ok (.if_icmp .ne 25, 3) := by decide +kernel
theorem dX0_contains_26 : decode cX0_contains 26 = .ok (.aload_n 0, 1) := by decide +kernel
theorem dX0_contains_27 : decode cX0_contains 27 = .ok (.iload 5, 2) := by decide +kernel
theorem dX0_contains_29 : decode cX0_contains 29 = .ok (.invokevirtual 30, 3) := by decide +kernel
theorem dX0_contains_32 : decode cX0_contains 32 = .ok (.iload_n 2, 1) := by decide +kernel
theorem dX0_contains_33 : decode cX0_contains 33 = .ok (.if_icmp .ne 15, 3) := by decide +kernel
theorem dX0_contains_36 : decode cX0_contains 36 = .ok (.aload_n 0, 1) := by decide +kernel
theorem dX0_contains_37 : decode cX0_contains 37 = .ok (.iload 5, 2) := by decide +kernel
theorem dX0_contains_39 : decode cX0_contains 39 = .ok (.invokevirtual 33, 3) := by decide +kernel
theorem dX0_contains_42 : decode cX0_contains 42 = .ok (.iload_n 3, 1) := by decide +kernel
theorem dX0_contains_43 : decode cX0_contains 43 = .ok (.if_icmp .ne 5, 3) := by decide +kernel
theorem dX0_contains_46 : decode cX0_contains 46 = .ok (.iconst 1, 1) := by decide +kernel
theorem dX0_contains_47 : decode cX0_contains 47 = .ok (.ireturn, 1) := by decide +kernel
theorem dX0_contains_48 : decode cX0_contains 48 = .ok (.iinc 5 1, 3) := by decide +kernel
theorem dX0_contains_51 : decode cX0_contains 51 = .ok (.goto (-42), 3) := by decide +kernel
theorem dX0_contains_54 : decode cX0_contains 54 = .ok (.iconst 0, 1) := by decide +kernel
theorem dX0_contains_55 : decode cX0_contains 55 = .ok (.ireturn, 1) := by decide +kernel
set_option maxRecDepth 20000 in
theorem ggX0_appendTo_X0_size : GoodIn wsX0_appendTo wsX0_size := goodIn_r _ [5, 6, 7, 8, 9, 4, 10, 11, 12, 47, 48, 49] (by decide +kernel) (by decide +kernel)
set_option maxRecDepth 20000 in
theorem gX0_appendTo_X0_size : GoodIn wsX0_appendTo (wsV RX0 22 RX0 yX0_size wsX0_size) := goodIn_app (goodIn_of _ (by decide +kernel)) ggX0_appendTo_X0_size
set_option maxRecDepth 20000 in
theorem ggX0_appendTo_X0_subject : GoodIn wsX0_appendTo wsX0_subject := goodIn_r _ [16, 17] (by decide +kernel) (by decide +kernel)
set_option maxRecDepth 20000 in
theorem gX0_appendTo_X0_subject : GoodIn wsX0_appendTo (wsV RX0 26 RX0 yX0_subject wsX0_subject) := goodIn_app (goodIn_of _ (by decide +kernel)) ggX0_appendTo_X0_subject
set_option maxRecDepth 20000 in
theorem ggX0_appendTo_X0_property : GoodIn wsX0_appendTo wsX0_property := goodIn_r _ [21, 17, 22] (by decide +kernel) (by decide +kernel)
set_option maxRecDepth 20000 in
theorem gX0_appendTo_X0_property : GoodIn wsX0_appendTo (wsV RX0 30 RX0 yX0_property wsX0_property) := goodIn_app (goodIn_of _ (by decide +kernel)) ggX0_appendTo_X0_property
set_option maxRecDepth 20000 in
theorem ggX0_appendTo_X0_object : GoodIn wsX0_appendTo wsX0_object := goodIn_r _ [26, 17, 22] (by decide +kernel) (by decide +kernel)
set_option maxRecDepth 20000 in
theorem gX0_appendTo_X0_object : GoodIn wsX0_appendTo (wsV RX0 33 RX0 yX0_object wsX0_object) := goodIn_app (goodIn_of _ (by decide +kernel)) ggX0_appendTo_X0_object
set_option maxRecDepth 20000 in
theorem ggX0_appendTo_X3_addNew : GoodIn wsX0_appendTo wsX3_addNew := goodIn_r _ [31, 32, 33, 34, 35, 36, 37, 38, 39, 40, 41, 42, 43, 44, 30, 45, 46, 50, 51, 52, 53, 54, 55, 56, 57, 58, 59, 60, 61] (by decide +kernel) (by decide +kernel)
set_option maxRecDepth 20000 in
theorem gX0_appendTo_X3_addNew : GoodIn wsX0_appendTo (wsV RX0 36 RX3 yX3_addNew wsX3_addNew) := goodIn_app (goodIn_of _ (by decide +kernel)) ggX0_appendTo_X3_addNew
theorem dX0_appendTo_0 : decode cX0_appendTo 0 = .ok (.aload_n 0, 1) := by decide +kernel
theorem dX0_appendTo_1 : decode cX0_appendTo 1 = .ok (.invokevirtual 22, 3) := by decide +kernel
theorem dX0_appendTo_4 : decode cX0_appendTo 4 = .ok (.istore_n 2, 1) := by decide +kernel
theorem dX0_appendTo_5 : decode cX0_appendTo 5 = .ok (.iconst 0, 1) := by decide +kernel
theorem dX0_appendTo_6 : decode cX0_appendTo 6 = .ok (.istore_n 3, 1) := by decide +kernel
theorem dX0_appendTo_7 : decode cX0_appendTo 7 = .ok (.iload_n 3, 1) := by decide +kernel
theorem dX0_appendTo_8 : decode cX0_appendTo 8 = .ok (.iload_n 2, 1) := by decide +kernel
theorem dX0_appendTo_9 : decode cX0_appendTo 9 = .ok (.if_icmp .ge 33, 3) := by decide +kernel
theorem dX0_appendTo_12 : decode cX0_appendTo 12 = .ok (.aload_n 1, 1) := by decide +kernel
theorem dX0_appendTo_13 : decode cX0_appendTo 13 = .ok (.aload_n 0, 1) := by decide +kernel
theorem dX0_appendTo_14 : decode cX0_appendTo 14 = .ok (.iload_n 3, 1) := by decide +kernel
theorem dX0_appendTo_15 : decode cX0_appendTo 15 = .ok (.invokevirtual 26, 3) := by decide +kernel
theorem dX0_appendTo_18 : decode cX0_appendTo 18 = .ok (.aload_n 0, 1) := by decide +kernel
theorem dX0_appendTo_19 : decode cX0_appendTo 19 = .ok (.iload_n 3, 1) := by decide +kernel
theorem dX0_appendTo_20 : decode cX0_appendTo 20 = .ok (.invokevirtual 30, 3) := by decide +kernel
theorem dX0_appendTo_23 : decode cX0_appendTo 23 = .ok (.aload_n 0, 1) := by decide +kernel
theorem dX0_appendTo_24 : decode cX0_appendTo 24 = .ok (.iload_n 3, 1) := by decide +kernel
theorem dX0_appendTo_25 : decode cX0_appendTo 25 = .ok (.invokevirtual 33, 3) := by decide +kernel
theorem dX0_appendTo_28 : decode cX0_appendTo 28 = .ok (.bipush (-2), 2) := by decide +kernel
theorem dX0_appendTo_30 : decode cX0_appendTo 30 = .ok (.iconst (-1), 1) := by decide +kernel
theorem dX0_appendTo_31 : decode cX0_appendTo 31 = .ok (.iconst (-1), 1) := by decide +kernel
theorem dX0_appendTo_32 : decode cX0_appendTo 32 = .ok (.iconst 0, 1) := by decide +kernel
theorem dX0_appendTo_33 : decode cX0_appendTo 33 = .ok (.invokevirtual 36, 3) := by decide +kernel
theorem dX0_appendTo_36 : decode cX0_appendTo 36 = .ok (.iinc 3 1, 3) := by decide +kernel
theorem dX0_appendTo_39 : decode cX0_appendTo 39 = .ok (.goto (-32), 3) := by decide +kernel
theorem dX0_appendTo_42 : decode cX0_appendTo 42 = .ok (.return_, 1) := by decide +kernel
set_option maxRecDepth 20000 in
theorem ggX0_size_X0_memberships : GoodIn wsX0_size wsX0_memberships := goodIn_r _ [6, 1, 7, 8, 9, 10, 11] (by decide +kernel) (by decide +kernel)
set_option maxRecDepth 20000 in
theorem gX0_size_X0_memberships : GoodIn wsX0_size (wsV RX0 42 RX0 yX0_memberships wsX0_memberships) := goodIn_app (goodIn_of _ (by decide +kernel)) ggX0_size_X0_memberships
theorem dX0_size_0 : decode cX0_size 0 = .ok (.aload_n 0, 1) := by decide +kernel
theorem dX0_size_1 : decode cX0_size 1 = .ok (.getfield 9, 3) := by decide +kernel
theorem dX0_size_4 : decode cX0_size 4 = .ok (.ifCond .eq 15, 3) := by decide +kernel
theorem dX0_size_7 : decode cX0_size 7 = .ok (.bipush 15, 2) := by decide +kernel
theorem dX0_size_9 : decode cX0_size 9 = .ok (.iconst 3, 1) := by decide +kernel
theorem dX0_size_10 : decode cX0_size 10 = .ok (.aload_n 0, 1) := by decide +kernel
theorem dX0_size_11 : decode cX0_size 11 = .ok (.invokevirtual 42, 3) := by decide +kernel
theorem dX0_size_14 : decode cX0_size 14 = .ok (.imul, 1) := by decide +kernel
theorem dX0_size_15 : decode cX0_size 15 = .ok (.iadd, 1) := by decide +kernel
theorem dX0_size_16 : decode cX0_size 16 = .ok (.goto 4, 3) := by decide +kernel
theorem dX0_size_19 : decode cX0_size 19 = .ok (.iconst 0, 1) := by decide +kernel
theorem dX0_size_20 : decode cX0_size 20 = .ok (.ireturn, 1) := by decide +kernel
theorem dX0_subject_0 : decode cX0_subject 0 = .ok (.iload_n 1, 1) := by decide +kernel
theorem dX0_subject_1 : decode cX0_subject 1 = .ok (.bipush 15, 2) := by decide +kernel
theorem dX0_subject_3 : decode cX0_subject 3 = .ok (.if_icmp .ge 13, 3) := by decide +kernel
theorem dX0_subject_6 : decode cX0_subject 6 = .ok (.getstatic 45, 3) := by decide +kernel
theorem dX0_subject_9 : decode cX0_subject 9 = .ok (.iconst 3, 1) := by decide +kernel
theorem dX0_subject_10 : decode cX0_subject 10 = .ok (.iload_n 1, 1) := by decide +kernel
theorem dX0_subject_11 : decode cX0_subject 11 = .ok (.imul, 1) := by decide +kernel
theorem dX0_subject_12 : decode cX0_subject 12 = .ok (.iaload, 1) := by decide +kernel
theorem dX0_subject_13 : decode cX0_subject 13 = .ok (.goto 12, 3) := by decide +kernel
theorem dX0_subject_16 : decode cX0_subject 16 = .ok (.bipush 20, 2) := by decide +kernel
theorem dX0_subject_18 : decode cX0_subject 18 = .ok (.iload_n 1, 1) := by decide +kernel
theorem dX0_subject_19 : decode cX0_subject 19 = .ok (.bipush 15, 2) := by decide +kernel
theorem dX0_subject_21 : decode cX0_subject 21 = .ok (.isub, 1) := by decide +kernel
theorem dX0_subject_22 : decode cX0_subject 22 = .ok (.iconst 3, 1) := by decide +kernel
theorem dX0_subject_23 : decode cX0_subject 23 = .ok (.idiv, 1) := by decide +kernel
theorem dX0_subject_24 : decode cX0_subject 24 = .ok (.iadd, 1) := by decide +kernel
theorem dX0_subject_25 : decode cX0_subject 25 = .ok (.ireturn, 1) := by decide +kernel
theorem dX0_property_0 : decode cX0_property 0 = .ok (.iload_n 1, 1) := by decide +kernel
theorem dX0_property_1 : decode cX0_property 1 = .ok (.bipush 15, 2) := by decide +kernel
theorem dX0_property_3 : decode cX0_property 3 = .ok (.if_icmp .ge 15, 3) := by decide +kernel
theorem dX0_property_6 : decode cX0_property 6 = .ok (.getstatic 45, 3) := by decide +kernel
theorem dX0_property_9 : decode cX0_property 9 = .ok (.iconst 3, 1) := by decide +kernel
theorem dX0_property_10 : decode cX0_property 10 = .ok (.iload_n 1, 1) := by decide +kernel
theorem dX0_property_11 : decode cX0_property 11 = .ok (.imul, 1) := by decide +kernel
theorem dX0_property_12 : decode cX0_property 12 = .ok (.iconst 1, 1) := by decide +kernel
theorem dX0_property_13 : decode cX0_property 13 = .ok (.iadd, 1) := by decide +kernel
theorem dX0_property_14 : decode cX0_property 14 = .ok (.iaload, 1) := by decide +kernel
theorem dX0_property_15 : decode cX0_property 15 = .ok (.goto 15, 3) := by decide +kernel
theorem dX0_property_18 : decode cX0_property 18 = .ok (.getstatic 49, 3) := by decide +kernel
theorem dX0_property_21 : decode cX0_property 21 = .ok (.iload_n 1, 1) := by decide +kernel
theorem dX0_property_22 : decode cX0_property 22 = .ok (.bipush 15, 2) := by decide +kernel
theorem dX0_property_24 : decode cX0_property 24 = .ok (.isub, 1) := by decide +kernel
theorem dX0_property_25 : decode cX0_property 25 = .ok (.iconst 3, 1) := by decide +kernel
theorem dX0_property_26 : decode cX0_property 26 = .ok (.irem, 1) := by decide +kernel
theorem dX0_property_27 : decode cX0_property 27 = .ok (.iconst 2, 1) := by decide +kernel
theorem dX0_property_28 : decode cX0_property 28 = .ok (.imul, 1) := by decide +kernel
theorem dX0_property_29 : decode cX0_property 29 = .ok (.iaload, 1) := by decide +kernel
theorem dX0_property_30 : decode cX0_property 30 = .ok (.ireturn, 1) := by decide +kernel
theorem dX0_object_0 : decode cX0_object 0 = .ok (.iload_n 1, 1) := by decide +kernel
theorem dX0_object_1 : decode cX0_object 1 = .ok (.bipush 15, 2) := by decide +kernel
theorem dX0_object_3 : decode cX0_object 3 = .ok (.if_icmp .ge 15, 3) := by decide +kernel
theorem dX0_object_6 : decode cX0_object 6 = .ok (.getstatic 45, 3) := by decide +kernel
theorem dX0_object_9 : decode cX0_object 9 = .ok (.iconst 3, 1) := by decide +kernel
theorem dX0_object_10 : decode cX0_object 10 = .ok (.iload_n 1, 1) := by decide +kernel
theorem dX0_object_11 : decode cX0_object 11 = .ok (.imul, 1) := by decide +kernel
theorem dX0_object_12 : decode cX0_object 12 = .ok (.iconst 2, 1) := by decide +kernel
theorem dX0_object_13 : decode cX0_object 13 = .ok (.iadd, 1) := by decide +kernel
theorem dX0_object_14 : decode cX0_object 14 = .ok (.iaload, 1) := by decide +kernel
theorem dX0_object_15 : decode cX0_object 15 = .ok (.goto 17, 3) := by decide +kernel
theorem dX0_object_18 : decode cX0_object 18 = .ok (.getstatic 49, 3) := by decide +kernel
theorem dX0_object_21 : decode cX0_object 21 = .ok (.iload_n 1, 1) := by decide +kernel
theorem dX0_object_22 : decode cX0_object 22 = .ok (.bipush 15, 2) := by decide +kernel
theorem dX0_object_24 : decode cX0_object 24 = .ok (.isub, 1) := by decide +kernel
theorem dX0_object_25 : decode cX0_object 25 = .ok (.iconst 3, 1) := by decide +kernel
theorem dX0_object_26 : decode cX0_object 26 = .ok (.irem, 1) := by decide +kernel
theorem dX0_object_27 : decode cX0_object 27 = .ok (.iconst 2, 1) := by decide +kernel
theorem dX0_object_28 : decode cX0_object 28 = .ok (.imul, 1) := by decide +kernel
theorem dX0_object_29 : decode cX0_object 29 = .ok (.iconst 1, 1) := by decide +kernel
theorem dX0_object_30 : decode cX0_object 30 = .ok (.iadd, 1) := by decide +kernel
theorem dX0_object_31 : decode cX0_object 31 = .ok (.iaload, 1) := by decide +kernel
theorem dX0_object_32 : decode cX0_object 32 = .ok (.ireturn, 1) := by decide +kernel
theorem dX1_init_0 : decode cX1_init 0 = .ok (.aload_n 0, 1) := by decide +kernel
theorem dX1_init_1 : decode cX1_init 1 = .ok (.invokespecial 3, 3) := by decide +kernel
theorem dX1_init_4 : decode cX1_init 4 = .ok (.aload_n 0, 1) := by decide +kernel
theorem dX1_init_5 : decode cX1_init 5 = .ok (.bipush 80, 2) := by decide +kernel
theorem dX1_init_7 : decode cX1_init 7 = .ok (.newarray .int, 2) := by decide +kernel
theorem dX1_init_9 : decode cX1_init 9 = .ok (.putfield 9, 3) := by decide +kernel
theorem dX1_init_12 : decode cX1_init 12 = .ok (.aload_n 0, 1) := by decide +kernel
theorem dX1_init_13 : decode cX1_init 13 = .ok (.bipush 80, 2) := by decide +kernel
theorem dX1_init_15 : decode cX1_init 15 = .ok (.newarray .int, 2) := by decide +kernel
theorem dX1_init_17 : decode cX1_init 17 = .ok (.putfield 15, 3) := by decide +kernel
theorem dX1_init_20 : decode cX1_init 20 = .ok (.aload_n 0, 1) := by decide +kernel
theorem dX1_init_21 : decode cX1_init 21 = .ok (.bipush 80, 2) := by decide +kernel
theorem dX1_init_23 : decode cX1_init 23 = .ok (.newarray .int, 2) := by decide +kernel
theorem dX1_init_25 : decode cX1_init 25 = .ok (.putfield 18, 3) := by decide +kernel
theorem dX1_init_28 : decode cX1_init 28 = .ok (.aload_n 0, 1) := by decide +kernel
theorem dX1_init_29 : decode cX1_init 29 = .ok (.iconst 0, 1) := by decide +kernel
theorem dX1_init_30 : decode cX1_init 30 = .ok (.putfield 21, 3) := by decide +kernel
theorem dX1_init_33 : decode cX1_init 33 = .ok (.return_, 1) := by decide +kernel
theorem dX1_size_0 : decode cX1_size 0 = .ok (.aload_n 0, 1) := by decide +kernel
theorem dX1_size_1 : decode cX1_size 1 = .ok (.getfield 21, 3) := by decide +kernel
theorem dX1_size_4 : decode cX1_size 4 = .ok (.ireturn, 1) := by decide +kernel
theorem dX1_placeOf_0 : decode cX1_placeOf 0 = .ok (.iconst 0, 1) := by decide +kernel
theorem dX1_placeOf_1 : decode cX1_placeOf 1 = .ok (.istore 4, 2) := by decide +kernel
theorem dX1_placeOf_3 : decode cX1_placeOf 3 = .ok (.iload 4, 2) := by decide +kernel
theorem dX1_placeOf_5 : decode cX1_placeOf 5 = .ok (.aload_n 0, 1) := by decide +kernel
theorem dX1_placeOf_6 : decode cX1_placeOf 6 = .ok (.getfield 21, 3) := by decide +kernel
theorem dX1_placeOf_9 : decode cX1_placeOf 9 = .ok (.if_icmp .ge 45, 3) := by decide +kernel
theorem dX1_placeOf_12 : decode cX1_placeOf 12 = .ok (.aload_n 0, 1) := by decide +kernel
theorem dX1_placeOf_13 : decode cX1_placeOf 13 = .ok (.getfield 9, 3) := by decide +kernel
theorem dX1_placeOf_16 : decode cX1_placeOf 16 = .ok (.iload 4, 2) := by decide +kernel
theorem dX1_placeOf_18 : decode cX1_placeOf 18 = .ok (.iaload, 1) := by decide +kernel
theorem dX1_placeOf_19 : decode cX1_placeOf 19 = .ok (.iload_n 1, 1) := by decide +kernel
theorem dX1_placeOf_20 : decode cX1_placeOf 20 = .ok (.if_icmp .ne 28, 3) := by decide +kernel
theorem dX1_placeOf_23 : decode cX1_placeOf 23 = .ok (.aload_n 0, 1) := by decide +kernel
theorem dX1_placeOf_24 : decode cX1_placeOf 24 = .ok (.getfield 15, 3) := by decide +kernel
theorem dX1_placeOf_27 : decode cX1_placeOf 27 = .ok (.iload 4, 2) := by decide +kernel
theorem dX1_placeOf_29 : decode cX1_placeOf 29 = .ok (.iaload, 1) := by decide +kernel
theorem dX1_placeOf_30 : decode cX1_placeOf 30 = .ok (.iload_n 2, 1) := by decide +kernel
theorem dX1_placeOf_31 : decode cX1_placeOf 31 = .ok (.if_icmp .ne 17, 3) := by decide +kernel
theorem dX1_placeOf_34 : decode cX1_placeOf 34 = .ok (.aload_n 0, 1) := by decide +kernel
theorem dX1_placeOf_35 : decode cX1_placeOf 35 = .ok (.getfield 18, 3) := by decide +kernel
theorem dX1_placeOf_38 : decode cX1_placeOf 38 = .ok (.iload 4, 2) := by decide +kernel
theorem dX1_placeOf_40 : decode cX1_placeOf 40 = .ok (.iaload, 1) := by decide +kernel
theorem dX1_placeOf_41 : decode cX1_placeOf 41 = .ok (.iload_n 3, 1) := by decide +kernel
theorem dX1_placeOf_42 : decode cX1_placeOf 42 = .ok (.if_icmp .ne 6, 3) := by decide +kernel
theorem dX1_placeOf_45 : decode cX1_placeOf 45 = .ok (.iload 4, 2) := by decide +kernel
theorem dX1_placeOf_47 : decode cX1_placeOf 47 = .ok (.ireturn, 1) := by decide +kernel
theorem dX1_placeOf_48 : decode cX1_placeOf 48 = .ok (.iinc 4 1, 3) := by decide +kernel
theorem dX1_placeOf_51 : decode cX1_placeOf 51 = .ok (.goto (-48), 3) := by decide +kernel
theorem dX1_placeOf_54 : decode cX1_placeOf 54 = .ok (.iconst (-1), 1) := by decide +kernel
theorem dX1_placeOf_55 : decode cX1_placeOf 55 = .ok (.ireturn, 1) := by decide +kernel
theorem dX1_append_0 : decode cX1_append 0 = .ok (.aload_n 0, 1) := by decide +kernel
theorem dX1_append_1 : decode cX1_append 1 = .ok (.getfield 9, 3) := by decide +kernel
theorem dX1_append_4 : decode cX1_append 4 = .ok (.aload_n 0, 1) := by decide +kernel
theorem dX1_append_5 : decode cX1_append 5 = .ok (.getfield 21, 3) := by decide +kernel
theorem dX1_append_8 : decode cX1_append 8 = .ok (.iload_n 1, 1) := by decide +kernel
theorem dX1_append_9 : decode cX1_append 9 = .ok (.iastore, 1) := by decide +kernel
theorem dX1_append_10 : decode cX1_append 10 = .ok (.aload_n 0, 1) := by decide +kernel
theorem dX1_append_11 : decode cX1_append 11 = .ok (.getfield 15, 3) := by decide +kernel
theorem dX1_append_14 : decode cX1_append 14 = .ok (.aload_n 0, 1) := by decide +kernel
theorem dX1_append_15 : decode cX1_append 15 = .ok (.getfield 21, 3) := by decide +kernel
theorem dX1_append_18 : decode cX1_append 18 = .ok (.iload_n 2, 1) := by decide +kernel
theorem dX1_append_19 : decode cX1_append 19 = .ok (.iastore, 1) := by decide +kernel
theorem dX1_append_20 : decode cX1_append 20 = .ok (.aload_n 0, 1) := by decide +kernel
theorem dX1_append_21 : decode cX1_append 21 = .ok (.getfield 18, 3) := by decide +kernel
theorem dX1_append_24 : decode cX1_append 24 = .ok (.aload_n 0, 1) := by decide +kernel
theorem dX1_append_25 : decode cX1_append 25 = .ok (.getfield 21, 3) := by decide +kernel
theorem dX1_append_28 : decode cX1_append 28 = .ok (.iload_n 3, 1) := by decide +kernel
theorem dX1_append_29 : decode cX1_append 29 = .ok (.iastore, 1) := by decide +kernel
theorem dX1_append_30 : decode cX1_append 30 = .ok (.aload_n 0, 1) := by decide +kernel
theorem dX1_append_31 : decode cX1_append 31 = .ok (.dup, 1) := by decide +kernel
theorem dX1_append_32 : decode cX1_append 32 = .ok (.getfield 21, 3) := by decide +kernel
theorem dX1_append_35 : decode cX1_append 35 = .ok (.iconst 1, 1) := by decide +kernel
theorem dX1_append_36 : decode cX1_append 36 = .ok (.iadd, 1) := by decide +kernel
theorem dX1_append_37 : decode cX1_append 37 = .ok (.putfield 21, 3) := by decide +kernel
theorem dX1_append_40 : decode cX1_append 40 = .ok (.return_, 1) := by decide +kernel
theorem dX1_dropAt_0 : decode cX1_dropAt 0 = .ok (.iload_n 1, 1) := by decide +kernel
theorem dX1_dropAt_1 : decode cX1_dropAt 1 = .ok (.istore_n 2, 1) := by decide +kernel
theorem dX1_dropAt_2 : decode cX1_dropAt 2 = .ok (.iload_n 2, 1) := by decide +kernel
theorem dX1_dropAt_3 : decode cX1_dropAt 3 = .ok (.iconst 1, 1) := by decide +kernel
theorem dX1_dropAt_4 : decode cX1_dropAt 4 = .ok (.iadd, 1) := by decide +kernel
theorem dX1_dropAt_5 : decode cX1_dropAt 5 = .ok (.aload_n 0, 1) := by decide +kernel
theorem dX1_dropAt_6 : decode cX1_dropAt 6 = .ok (.getfield 21, 3) := by decide +kernel
theorem dX1_dropAt_9 : decode cX1_dropAt 9 = .ok (.if_icmp .ge 51, 3) := by decide +kernel
theorem dX1_dropAt_12 : decode cX1_dropAt 12 = .ok (.aload_n 0, 1) := by decide +kernel
theorem dX1_dropAt_13 : decode cX1_dropAt 13 = .ok (.getfield 9, 3) := by decide +kernel
theorem dX1_dropAt_16 : decode cX1_dropAt 16 = .ok (.iload_n 2, 1) := by decide +kernel
theorem dX1_dropAt_17 : decode cX1_dropAt 17 = .ok (.aload_n 0, 1) := by decide +kernel
theorem dX1_dropAt_18 : decode cX1_dropAt 18 = .ok (.getfield 9, 3) := by decide +kernel
theorem dX1_dropAt_21 : decode cX1_dropAt 21 = .ok (.iload_n 2, 1) := by decide +kernel
theorem dX1_dropAt_22 : decode cX1_dropAt 22 = .ok (.iconst 1, 1) := by decide +kernel
theorem dX1_dropAt_23 : decode cX1_dropAt 23 = .ok (.iadd, 1) := by decide +kernel
theorem dX1_dropAt_24 : decode cX1_dropAt 24 = .ok (.iaload, 1) := by decide +kernel
theorem dX1_dropAt_25 : decode cX1_dropAt 25 = .ok (.iastore, 1) := by decide +kernel
theorem dX1_dropAt_26 : decode cX1_dropAt 26 = .ok (.aload_n 0, 1) := by decide +kernel
theorem dX1_dropAt_27 : decode cX1_dropAt 27 = .ok (.getfield 15, 3) := by decide +kernel
theorem dX1_dropAt_30 : decode cX1_dropAt 30 = .ok (.iload_n 2, 1) := by decide +kernel
theorem dX1_dropAt_31 : decode cX1_dropAt 31 = .ok (.aload_n 0, 1) := by decide +kernel
theorem dX1_dropAt_32 : decode cX1_dropAt 32 = .ok (.getfield 15, 3) := by decide +kernel
theorem dX1_dropAt_35 : decode cX1_dropAt 35 = .ok (.iload_n 2, 1) := by decide +kernel
theorem dX1_dropAt_36 : decode cX1_dropAt 36 = .ok (.iconst 1, 1) := by decide +kernel
theorem dX1_dropAt_37 : decode cX1_dropAt 37 = .ok (.iadd, 1) := by decide +kernel
theorem dX1_dropAt_38 : decode cX1_dropAt 38 = .ok (.iaload, 1) := by decide +kernel
theorem dX1_dropAt_39 : decode cX1_dropAt 39 = .ok (.iastore, 1) := by decide +kernel
theorem dX1_dropAt_40 : decode cX1_dropAt 40 = .ok (.aload_n 0, 1) := by decide +kernel
theorem dX1_dropAt_41 : decode cX1_dropAt 41 = .ok (.getfield 18, 3) := by decide +kernel
theorem dX1_dropAt_44 : decode cX1_dropAt 44 = .ok (.iload_n 2, 1) := by decide +kernel
theorem dX1_dropAt_45 : decode cX1_dropAt 45 = .ok (.aload_n 0, 1) := by decide +kernel
theorem dX1_dropAt_46 : decode cX1_dropAt 46 = .ok (.getfield 18, 3) := by decide +kernel
theorem dX1_dropAt_49 : decode cX1_dropAt 49 = .ok (.iload_n 2, 1) := by decide +kernel
theorem dX1_dropAt_50 : decode cX1_dropAt 50 = .ok (.iconst 1, 1) := by decide +kernel
theorem dX1_dropAt_51 : decode cX1_dropAt 51 = .ok (.iadd, 1) := by decide +kernel
theorem dX1_dropAt_52 : decode cX1_dropAt 52 = .ok (.iaload, 1) := by decide +kernel
theorem dX1_dropAt_53 : decode cX1_dropAt 53 = .ok (.iastore, 1) := by decide +kernel
theorem dX1_dropAt_54 : decode cX1_dropAt 54 = .ok (.iinc 2 1, 3) := by decide +kernel
theorem dX1_dropAt_57 : decode cX1_dropAt 57 = .ok (.goto (-55), 3) := by decide +kernel
theorem dX1_dropAt_60 : decode cX1_dropAt 60 = .ok (.aload_n 0, 1) := by decide +kernel
theorem dX1_dropAt_61 : decode cX1_dropAt 61 = .ok (.dup, 1) := by decide +kernel
theorem dX1_dropAt_62 : decode cX1_dropAt 62 = .ok (.getfield 21, 3) := by decide +kernel
theorem dX1_dropAt_65 : decode cX1_dropAt 65 = .ok (.iconst 1, 1) := by decide +kernel
theorem dX1_dropAt_66 : decode cX1_dropAt 66 = .ok (.isub, 1) := by decide +kernel
theorem dX1_dropAt_67 : decode cX1_dropAt 67 = .ok (.putfield 21, 3) := by decide +kernel
theorem dX1_dropAt_70 : decode cX1_dropAt 70 = .ok (.return_, 1) := by decide +kernel
set_option maxRecDepth 20000 in
theorem ggX1_appendTo_X3_addNew : GoodIn wsX1_appendTo wsX3_addNew := goodIn_r _ [9, 10, 11, 12, 13, 14, 15, 16, 17, 18, 19, 20, 21, 22, 8, 23, 24, 29, 30, 31, 32, 33, 34, 35, 36, 37, 38, 39, 40] (by decide +kernel) (by decide +kernel)
set_option maxRecDepth 20000 in
theorem gX1_appendTo_X3_addNew : GoodIn wsX1_appendTo (wsV RX1 25 RX3 yX3_addNew wsX3_addNew) := goodIn_app (goodIn_of _ (by decide +kernel)) ggX1_appendTo_X3_addNew
theorem dX1_appendTo_0 : decode cX1_appendTo 0 = .ok (.iconst 0, 1) := by decide +kernel
theorem dX1_appendTo_1 : decode cX1_appendTo 1 = .ok (.istore_n 2, 1) := by decide +kernel
theorem dX1_appendTo_2 : decode cX1_appendTo 2 = .ok (.iload_n 2, 1) := by decide +kernel
theorem dX1_appendTo_3 : decode cX1_appendTo 3 = .ok (.aload_n 0, 1) := by decide +kernel
theorem dX1_appendTo_4 : decode cX1_appendTo 4 = .ok (.getfield 21, 3) := by decide +kernel
theorem dX1_appendTo_7 : decode cX1_appendTo 7 = .ok (.if_icmp .ge 35, 3) := by decide +kernel
theorem dX1_appendTo_10 : decode cX1_appendTo 10 = .ok (.aload_n 1, 1) := by decide +kernel
theorem dX1_appendTo_11 : decode cX1_appendTo 11 = .ok (.aload_n 0, 1) := by decide +kernel
theorem dX1_appendTo_12 : decode cX1_appendTo 12 = .ok (.getfield 9, 3) := by decide +kernel
theorem dX1_appendTo_15 : decode cX1_appendTo 15 = .ok (.iload_n 2, 1) := by decide +kernel
theorem dX1_appendTo_16 : decode cX1_appendTo 16 = .ok (.iaload, 1) := by decide +kernel
theorem dX1_appendTo_17 : decode cX1_appendTo 17 = .ok (.aload_n 0, 1) := by decide +kernel
theorem dX1_appendTo_18 : decode cX1_appendTo 18 = .ok (.getfield 15, 3) := by decide +kernel
theorem dX1_appendTo_21 : decode cX1_appendTo 21 = .ok (.iload_n 2, 1) := by decide +kernel
theorem dX1_appendTo_22 : decode cX1_appendTo 22 = .ok (.iaload, 1) := by decide +kernel
theorem dX1_appendTo_23 : decode cX1_appendTo 23 = .ok (.aload_n 0, 1) := by decide +kernel
theorem dX1_appendTo_24 : decode cX1_appendTo 24 = .ok (.getfield 18, 3) := by decide +kernel
theorem dX1_appendTo_27 : decode cX1_appendTo 27 = .ok (.iload_n 2, 1) := by decide +kernel
theorem dX1_appendTo_28 : decode cX1_appendTo 28 = .ok (.iaload, 1) := by decide +kernel
theorem dX1_appendTo_29 : decode cX1_appendTo 29 = .ok (.iconst (-1), 1) := by decide +kernel
theorem dX1_appendTo_30 : decode cX1_appendTo 30 = .ok (.iconst (-1), 1) := by decide +kernel
theorem dX1_appendTo_31 : decode cX1_appendTo 31 = .ok (.iconst (-1), 1) := by decide +kernel
theorem dX1_appendTo_32 : decode cX1_appendTo 32 = .ok (.iconst 0, 1) := by decide +kernel
theorem dX1_appendTo_33 : decode cX1_appendTo 33 = .ok (.invokevirtual 25, 3) := by decide +kernel
theorem dX1_appendTo_36 : decode cX1_appendTo 36 = .ok (.iinc 2 1, 3) := by decide +kernel
theorem dX1_appendTo_39 : decode cX1_appendTo 39 = .ok (.goto (-37), 3) := by decide +kernel
theorem dX1_appendTo_42 : decode cX1_appendTo 42 = .ok (.return_, 1) := by decide +kernel
theorem dX2_init_0 : decode cX2_init 0 = .ok (.aload_n 0, 1) := by decide +kernel
theorem dX2_init_1 : decode cX2_init 1 = .ok (.invokespecial 3, 3) := by decide +kernel
theorem dX2_init_4 : decode cX2_init 4 = .ok (.aload_n 0, 1) := by decide +kernel
theorem dX2_init_5 : decode cX2_init 5 = .ok (.iconst 0, 1) := by decide +kernel
theorem dX2_init_6 : decode cX2_init 6 = .ok (.putfield 9, 3) := by decide +kernel
theorem dX2_init_9 : decode cX2_init 9 = .ok (.aload_n 0, 1) := by decide +kernel
theorem dX2_init_10 : decode cX2_init 10 = .ok (.iconst 0, 1) := by decide +kernel
theorem dX2_init_11 : decode cX2_init 11 = .ok (.putfield 15, 3) := by decide +kernel
theorem dX2_init_14 : decode cX2_init 14 = .ok (.aload_n 0, 1) := by decide +kernel
theorem dX2_init_15 : decode cX2_init 15 = .ok (.iconst 0, 1) := by decide +kernel
theorem dX2_init_16 : decode cX2_init 16 = .ok (.putfield 18, 3) := by decide +kernel
theorem dX2_init_19 : decode cX2_init 19 = .ok (.aload_n 0, 1) := by decide +kernel
theorem dX2_init_20 : decode cX2_init 20 = .ok (.iconst 0, 1) := by decide +kernel
theorem dX2_init_21 : decode cX2_init 21 = .ok (.putfield 21, 3) := by decide +kernel
theorem dX2_init_24 : decode cX2_init 24 = .ok (.aload_n 0, 1) := by decide +kernel
theorem dX2_init_25 : decode cX2_init 25 = .ok (.iconst (-1), 1) := by decide +kernel
theorem dX2_init_26 : decode cX2_init 26 = .ok (.putfield 24, 3) := by decide +kernel
theorem dX2_init_29 : decode cX2_init 29 = .ok (.aload_n 0, 1) := by decide +kernel
theorem dX2_init_30 : decode cX2_init 30 = .ok (.iconst (-1), 1) := by decide +kernel
theorem dX2_init_31 : decode cX2_init 31 = .ok (.putfield 27, 3) := by decide +kernel
theorem dX2_init_34 : decode cX2_init 34 = .ok (.aload_n 0, 1) := by decide +kernel
theorem dX2_init_35 : decode cX2_init 35 = .ok (.aload_n 1, 1) := by decide +kernel
theorem dX2_init_36 : decode cX2_init 36 = .ok (.putfield 30, 3) := by decide +kernel
theorem dX2_init_39 : decode cX2_init 39 = .ok (.aload_n 0, 1) := by decide +kernel
theorem dX2_init_40 : decode cX2_init 40 = .ok (.aload_n 2, 1) := by decide +kernel
theorem dX2_init_41 : decode cX2_init 41 = .ok (.putfield 34, 3) := by decide +kernel
theorem dX2_init_44 : decode cX2_init 44 = .ok (.return_, 1) := by decide +kernel
set_option maxRecDepth 20000 in
theorem ggX2_close_X3_size : GoodIn wsX2_close wsX3_size := goodIn_r _ [10, 11, 89, 90, 91, 92, 93, 94, 95, 96, 97, 98, 99, 100] (by decide +kernel) (by decide +kernel)
set_option maxRecDepth 20000 in
theorem gX2_close_X3_size : GoodIn wsX2_close (wsV RX2 38 RX3 yX3_size wsX3_size) := goodIn_app (goodIn_of _ (by decide +kernel)) ggX2_close_X3_size
set_option maxRecDepth 20000 in
theorem ggX2_close_X3_isOverfull : GoodIn wsX2_close wsX3_isOverfull := goodIn_r _ [15, 16, 89, 90, 91, 92, 93, 94, 95, 96, 97, 98, 99, 100] (by decide +kernel) (by decide +kernel)
set_option maxRecDepth 20000 in
theorem gX2_close_X3_isOverfull : GoodIn wsX2_close (wsV RX2 44 RX3 yX3_isOverfull wsX3_isOverfull) := goodIn_app (goodIn_of _ (by decide +kernel)) ggX2_close_X3_isOverfull
set_option maxRecDepth 20000 in
theorem ggX2_close_X2_firstProperty : GoodIn wsX2_close wsX2_firstProperty := goodIn_r _ [21, 5, 81, 82, 83, 84, 85, 86, 87, 88] (by decide +kernel) (by decide +kernel)
set_option maxRecDepth 20000 in
theorem gX2_close_X2_firstProperty : GoodIn wsX2_close (wsV RX2 48 RX2 yX2_firstProperty wsX2_firstProperty) := goodIn_app (goodIn_of _ (by decide +kernel)) ggX2_close_X2_firstProperty
set_option maxRecDepth 20000 in
theorem ggX2_close_X2_applyToSingles : GoodIn wsX2_close wsX2_applyToSingles := goodIn_r _ [25, 26, 2, 4, 27, 1, 28, 29, 30, 31, 32, 33, 20, 34, 5, 35, 36, 37, 38, 39, 40, 41, 42, 43, 44, 45, 46, 47, 48, 49, 50, 51, 3, 52, 53, 54, 9, 55, 56, 11, 16, 57, 58, 59, 60, 61, 62, 63, 64, 65, 66, 67, 68, 81, 82, 83, 84, 85, 86, 87, 88, 89, 90, 91, 92, 93, 94, 95, 96, 97, 98, 99, 100, 101, 102] (by decide +kernel) (by decide +kernel)
set_option maxRecDepth 20000 in
theorem gX2_close_X2_applyToSingles : GoodIn wsX2_close (wsV RX2 51 RX2 yX2_applyToSingles wsX2_applyToSingles) := goodIn_app (goodIn_of _ (by decide +kernel)) ggX2_close_X2_applyToSingles
set_option maxRecDepth 20000 in
theorem ggX2_close_X2_applyToPairs : GoodIn wsX2_close wsX2_applyToPairs := goodIn_r _ [72, 4, 1, 29, 27, 28, 30, 5, 2, 26, 17, 18, 19, 20, 21, 73, 74, 75, 76, 77, 78, 79, 80, 35, 48, 49, 50, 51, 3, 52, 53, 54, 9, 55, 56, 11, 16, 57, 58, 59, 60, 61, 62, 63, 64, 65, 66, 67, 68, 36, 37, 38, 39, 40, 41, 81, 82, 83, 84, 85, 86, 87, 88, 89, 90, 91, 92, 93, 94, 95, 96, 97, 98, 99, 100, 101, 102] (by decide +kernel) (by decide +kernel)
set_option maxRecDepth 20000 in
theorem gX2_close_X2_applyToPairs : GoodIn wsX2_close (wsV RX2 54 RX2 yX2_applyToPairs wsX2_applyToPairs) := goodIn_app (goodIn_of _ (by decide +kernel)) ggX2_close_X2_applyToPairs
theorem dX2_close_0 : decode cX2_close 0 = .ok (.aload_n 0, 1) := by decide +kernel
theorem dX2_close_1 : decode cX2_close 1 = .ok (.aload_n 1, 1) := by decide +kernel
theorem dX2_close_2 : decode cX2_close 2 = .ok (.putfield 34, 3) := by decide +kernel
theorem dX2_close_5 : decode cX2_close 5 = .ok (.aload_n 0, 1) := by decide +kernel
theorem dX2_close_6 : decode cX2_close 6 = .ok (.iconst 0, 1) := by decide +kernel
theorem dX2_close_7 : decode cX2_close 7 = .ok (.putfield 9, 3) := by decide +kernel
theorem dX2_close_10 : decode cX2_close 10 = .ok (.iconst 0, 1) := by decide +kernel
theorem dX2_close_11 : decode cX2_close 11 = .ok (.istore_n 2, 1) := by decide +kernel
theorem dX2_close_12 : decode cX2_close 12 = .ok (.iload_n 2, 1) := by decide +kernel
theorem dX2_close_13 : decode cX2_close 13 = .ok (.sipush 600, 3) := by decide +kernel
theorem dX2_close_16 : decode cX2_close 16 = .ok (.if_icmp .gt 111, 3) := by decide +kernel
theorem dX2_close_19 : decode cX2_close 19 = .ok (.aload_n 0, 1) := by decide +kernel
theorem dX2_close_20 : decode cX2_close 20 = .ok (.iload_n 2, 1) := by decide +kernel
theorem dX2_close_21 : decode cX2_close 21 = .ok (.iconst 1, 1) := by decide +kernel
theorem dX2_close_22 : decode cX2_close 22 = .ok (.iadd, 1) := by decide +kernel
theorem dX2_close_23 : decode cX2_close 23 = .ok (.putfield 18, 3) := by decide +kernel
theorem dX2_close_26 : decode cX2_close 26 = .ok (.aload_n 0, 1) := by decide +kernel
theorem dX2_close_27 : decode cX2_close 27 = .ok (.aload_n 0, 1) := by decide +kernel
theorem dX2_close_28 : decode cX2_close 28 = .ok (.getfield 34, 3) := by decide +kernel
theorem dX2_close_31 : decode cX2_close 31 = .ok (.invokevirtual 38, 3) := by decide +kernel
theorem dX2_close_34 : decode cX2_close 34 = .ok (.putfield 15, 3) := by decide +kernel
theorem dX2_close_37 : decode cX2_close 37 = .ok (.iconst 0, 1) := by decide +kernel
theorem dX2_close_38 : decode cX2_close 38 = .ok (.istore_n 3, 1) := by decide +kernel
theorem dX2_close_39 : decode cX2_close 39 = .ok (.iload_n 3, 1) := by decide +kernel
theorem dX2_close_40 : decode cX2_close 40 = .ok (.bipush 14, 2) := by decide +kernel
theorem dX2_close_42 : decode cX2_close 42 = .ok (.if_icmp .ge 43, 3) := by decide +kernel
theorem dX2_close_45 : decode cX2_close 45 = .ok (.aload_n 0, 1) := by decide +kernel
theorem dX2_close_46 : decode cX2_close 46 = .ok (.getfield 34, 3) := by decide +kernel
theorem dX2_close_49 : decode cX2_close 49 = .ok (.invokevirtual 44, 3) := by decide +kernel
theorem dX2_close_52 : decode cX2_close 52 = .ok (.ifCond .ne 33, 3) := by decide +kernel
theorem dX2_close_55 : decode cX2_close 55 = .ok (.aload_n 0, 1) := by decide +kernel
theorem dX2_close_56 : decode cX2_close 56 = .ok (.iload_n 3, 1) := by decide +kernel
theorem dX2_close_57 : decode cX2_close 57 = .ok (.putfield 21, 3) := by decide +kernel
theorem dX2_close_60 : decode cX2_close 60 = .ok (.aload_n 0, 1) := by decide +kernel
theorem dX2_close_61 : decode cX2_close 61 = .ok (.invokevirtual 48, 3) := by decide +kernel
theorem dX2_close_64 : decode cX2_close 64 = .ok (.iconst (-1), 1) := by decide +kernel
theorem dX2_close_65 : decode cX2_close 65 = .ok (.if_icmp .ne 10, 3) := by decide +kernel
theorem dX2_close_68 : decode cX2_close 68 = .ok (.aload_n 0, 1) := by decide +kernel
theorem dX2_close_69 : decode cX2_close 69 = .ok (.invokevirtual 51, 3) := by decide +kernel
theorem dX2_close_72 : decode cX2_close 72 = .ok (.goto 7, 3) := by decide +kernel
theorem dX2_close_75 : decode cX2_close 75 = .ok (.aload_n 0, 1) := by decide +kernel
theorem dX2_close_76 : decode cX2_close 76 = .ok (.invokevirtual 54, 3) := by decide +kernel
theorem dX2_close_79 : decode cX2_close 79 = .ok (.iinc 3 1, 3) := by decide +kernel
theorem dX2_close_82 : decode cX2_close 82 = .ok (.goto (-43), 3) := by decide +kernel
theorem dX2_close_85 : decode cX2_close 85 = .ok (.aload_n 0, 1) := by decide +kernel
theorem dX2_close_86 : decode cX2_close 86 = .ok (.getfield 34, 3) := by decide +kernel
theorem dX2_close_89 : decode cX2_close 89 = .ok (.invokevirtual 44, 3) := by decide +kernel
theorem dX2_close_92 : decode cX2_close 92 = .ok (.ifCond .eq 5, 3) := by decide +kernel
theorem dX2_close_95 : decode cX2_close 95 = .ok (.iconst (-1), 1) := by decide +kernel
theorem dX2_close_96 : decode cX2_close 96 = .ok (.ireturn, 1) := by decide +kernel
theorem dX2_close_97 : decode cX2_close 97 = .ok (.aload_n 0, 1) := by decide +kernel
theorem dX2_close_98 : decode cX2_close 98 = .ok (.getfield 34, 3) := by decide +kernel
theorem dX2_close_101 : decode cX2_close 101 = .ok (.invokevirtual 38, 3) := by decide +kernel
theorem dX2_close_104 : decode cX2_close 104 = .ok (.aload_n 0, 1) := by decide +kernel
theorem dX2_close_105 : decode cX2_close 105 = .ok (.getfield 15, 3) := by decide +kernel
theorem dX2_close_108 : decode cX2_close 108 = .ok (.if_icmp .ne 5, 3) := by decide +kernel
theorem dX2_close_111 : decode cX2_close 111 = .ok (.iload_n 2, 1) := by decide +kernel
theorem dX2_close_112 : decode cX2_close 112 = .ok (.ireturn, 1) := by decide +kernel
theorem dX2_close_113 : decode cX2_close 113 = .ok (.aload_n 0, 1) := by decide +kernel
theorem dX2_close_114 : decode cX2_close 114 = .ok (.aload_n 0, 1) := by decide +kernel
theorem dX2_close_115 : decode cX2_close 115 = .ok (.getfield 15, 3) := by decide +kernel
theorem dX2_close_118 : decode cX2_close 118 = .ok (.putfield 9, 3) := by decide +kernel
theorem dX2_close_121 : decode cX2_close 121 = .ok (.iinc 2 1, 3) := by decide +kernel
theorem dX2_close_124 : decode cX2_close 124 = .ok (.goto (-112), 3) := by decide +kernel
theorem dX2_close_127 : decode cX2_close 127 = .ok (.iconst (-1), 1) := by decide +kernel
theorem dX2_close_128 : decode cX2_close 128 = .ok (.ireturn, 1) := by decide +kernel
theorem dX2_firstProperty_0 : decode cX2_firstProperty 0 = .ok (.aload_n 0, 1) := by decide +kernel
theorem dX2_firstProperty_1 : decode cX2_firstProperty 1 = .ok (.getfield 21, 3) := by decide +kernel
theorem dX2_firstProperty_4 : decode cX2_firstProperty 4 = .ok (.tableswitch 66 2 11 #[56, 59, 66, 62, 66, 62, 66, 64, 66, 64], 56) := by decide +kernel
theorem dX2_firstProperty_60 : decode cX2_firstProperty 60 = .ok (.bipush 6, 2) := by decide +kernel
theorem dX2_firstProperty_62 : decode cX2_firstProperty 62 = .ok (.ireturn, 1) := by decide +kernel
theorem dX2_firstProperty_63 : decode cX2_firstProperty 63 = .ok (.bipush 7, 2) := by decide +kernel
theorem dX2_firstProperty_65 : decode cX2_firstProperty 65 = .ok (.ireturn, 1) := by decide +kernel
theorem dX2_firstProperty_66 : decode cX2_firstProperty 66 = .ok (.iconst 5, 1) := by decide +kernel
theorem dX2_firstProperty_67 : decode cX2_firstProperty 67 = .ok (.ireturn, 1) := by decide +kernel
theorem dX2_firstProperty_68 : decode cX2_firstProperty 68 = .ok (.iconst 4, 1) := by decide +kernel
theorem dX2_firstProperty_69 : decode cX2_firstProperty 69 = .ok (.ireturn, 1) := by decide +kernel
theorem dX2_firstProperty_70 : decode cX2_firstProperty 70 = .ok (.iconst (-1), 1) := by decide +kernel
theorem dX2_firstProperty_71 : decode cX2_firstProperty 71 = .ok (.ireturn, 1) := by decide +kernel
theorem dX2_settledParts_0 : decode cX2_settledParts 0 = .ok (.aload_n 0, 1) := by decide +kernel
theorem dX2_settledParts_1 : decode cX2_settledParts 1 = .ok (.getfield 21, 3) := by decide +kernel
theorem dX2_settledParts_4 : decode cX2_settledParts 4 = .ok (.lookupswitch 52 #[(5, 36), (9, 44), (11, 36)], 36) := by decide +kernel
theorem dX2_settledParts_40 : decode cX2_settledParts 40 = .ok (.aload_n 0, 1) := by decide +kernel
theorem dX2_settledParts_41 : decode cX2_settledParts 41 = .ok (.getfield 34, 3) := by decide +kernel
theorem dX2_settledParts_44 : decode cX2_settledParts 44 = .ok (.getfield 57, 3) := by decide +kernel
theorem dX2_settledParts_47 : decode cX2_settledParts 47 = .ok (.areturn, 1) := by decide +kernel
theorem dX2_settledParts_48 : decode cX2_settledParts 48 = .ok (.aload_n 0, 1) := by decide +kernel
theorem dX2_settledParts_49 : decode cX2_settledParts 49 = .ok (.getfield 34, 3) := by decide +kernel
theorem dX2_settledParts_52 : decode cX2_settledParts 52 = .ok (.getfield 61, 3) := by decide +kernel
theorem dX2_settledParts_55 : decode cX2_settledParts 55 = .ok (.areturn, 1) := by decide +kernel
theorem dX2_settledParts_56 : decode cX2_settledParts 56 = .ok (.aload_n 0, 1) := by decide +kernel
theorem dX2_settledParts_57 : decode cX2_settledParts 57 = .ok (.getfield 34, 3) := by decide +kernel
theorem dX2_settledParts_60 : decode cX2_settledParts 60 = .ok (.getfield 64, 3) := by decide +kernel
theorem dX2_settledParts_63 : decode cX2_settledParts 63 = .ok (.areturn, 1) := by decide +kernel
set_option maxRecDepth 20000 in
theorem ggX2_applyToSingles_X2_makeOfOne : GoodIn wsX2_applyToSingles wsX2_makeOfOne := goodIn_r _ [13, 14, 15, 16, 17, 18, 19, 20, 21, 22, 23, 24, 25, 26, 27, 28, 29, 30, 12, 31, 5, 4, 1, 32, 33, 34, 35, 36, 37, 38, 39, 40, 41, 42, 43, 44, 45, 46, 47, 48, 49, 50, 51, 52, 53, 54, 55, 56, 57, 58, 59, 60, 73, 74, 61, 62, 63, 64, 65, 66, 67, 68, 69, 70, 71, 72] (by decide +kernel) (by decide +kernel)
set_option maxRecDepth 20000 in
theorem gX2_applyToSingles_X2_makeOfOne : GoodIn wsX2_applyToSingles (wsV RX2 67 RX2 yX2_makeOfOne wsX2_makeOfOne) := goodIn_app (goodIn_of _ (by decide +kernel)) ggX2_applyToSingles_X2_makeOfOne
theorem dX2_applyToSingles_0 : decode cX2_applyToSingles 0 = .ok (.aload_n 0, 1) := by decide +kernel
theorem dX2_applyToSingles_1 : decode cX2_applyToSingles 1 = .ok (.iconst (-1), 1) := by decide +kernel
theorem dX2_applyToSingles_2 : decode cX2_applyToSingles 2 = .ok (.putfield 27, 3) := by decide +kernel
theorem dX2_applyToSingles_5 : decode cX2_applyToSingles 5 = .ok (.aload_n 0, 1) := by decide +kernel
theorem dX2_applyToSingles_6 : decode cX2_applyToSingles 6 = .ok (.getfield 9, 3) := by decide +kernel
theorem dX2_applyToSingles_9 : decode cX2_applyToSingles 9 = .ok (.istore_n 1, 1) := by decide +kernel
theorem dX2_applyToSingles_10 : decode cX2_applyToSingles 10 = .ok (.iload_n 1, 1) := by decide +kernel
theorem dX2_applyToSingles_11 : decode cX2_applyToSingles 11 = .ok (.aload_n 0, 1) := by decide +kernel
theorem dX2_applyToSingles_12 : decode cX2_applyToSingles 12 = .ok (.getfield 15, 3) := by decide +kernel
theorem dX2_applyToSingles_15 : decode cX2_applyToSingles 15 = .ok (.if_icmp .ge 45, 3) := by decide +kernel
theorem dX2_applyToSingles_18 : decode cX2_applyToSingles 18 = .ok (.aload_n 0, 1) := by decide +kernel
theorem dX2_applyToSingles_19 : decode cX2_applyToSingles 19 = .ok (.iload_n 1, 1) := by decide +kernel
theorem dX2_applyToSingles_20 : decode cX2_applyToSingles 20 = .ok (.putfield 24, 3) := by decide +kernel
theorem dX2_applyToSingles_23 : decode cX2_applyToSingles 23 = .ok (.aload_n 0, 1) := by decide +kernel
theorem dX2_applyToSingles_24 : decode cX2_applyToSingles 24 = .ok (.aload_n 0, 1) := by decide +kernel
theorem dX2_applyToSingles_25 : decode cX2_applyToSingles 25 = .ok (.getfield 34, 3) := by decide +kernel
theorem dX2_applyToSingles_28 : decode cX2_applyToSingles 28 = .ok (.getfield 57, 3) := by decide +kernel
theorem dX2_applyToSingles_31 : decode cX2_applyToSingles 31 = .ok (.iload_n 1, 1) := by decide +kernel
theorem dX2_applyToSingles_32 : decode cX2_applyToSingles 32 = .ok (.iaload, 1) := by decide +kernel
theorem dX2_applyToSingles_33 : decode cX2_applyToSingles 33 = .ok (.aload_n 0, 1) := by decide +kernel
theorem dX2_applyToSingles_34 : decode cX2_applyToSingles 34 = .ok (.getfield 34, 3) := by decide +kernel
theorem dX2_applyToSingles_37 : decode cX2_applyToSingles 37 = .ok (.getfield 64, 3) := by decide +kernel
theorem dX2_applyToSingles_40 : decode cX2_applyToSingles 40 = .ok (.iload_n 1, 1) := by decide +kernel
theorem dX2_applyToSingles_41 : decode cX2_applyToSingles 41 = .ok (.iaload, 1) := by decide +kernel
theorem dX2_applyToSingles_42 : decode cX2_applyToSingles 42 = .ok (.aload_n 0, 1) := by decide +kernel
theorem dX2_applyToSingles_43 : decode cX2_applyToSingles 43 = .ok (.getfield 34, 3) := by decide +kernel
theorem dX2_applyToSingles_46 : decode cX2_applyToSingles 46 = .ok (.getfield 61, 3) := by decide +kernel
theorem dX2_applyToSingles_49 : decode cX2_applyToSingles 49 = .ok (.iload_n 1, 1) := by decide +kernel
theorem dX2_applyToSingles_50 : decode cX2_applyToSingles 50 = .ok (.iaload, 1) := by decide +kernel
theorem dX2_applyToSingles_51 : decode cX2_applyToSingles 51 = .ok (.invokevirtual 67, 3) := by decide +kernel
theorem dX2_applyToSingles_54 : decode cX2_applyToSingles 54 = .ok (.iinc 1 1, 3) := by decide +kernel
theorem dX2_applyToSingles_57 : decode cX2_applyToSingles 57 = .ok (.goto (-47), 3) := by decide +kernel
theorem dX2_applyToSingles_60 : decode cX2_applyToSingles 60 = .ok (.return_, 1) := by decide +kernel
set_option maxRecDepth 20000 in
theorem ggX2_applyToPairs_X2_firstProperty : GoodIn wsX2_applyToPairs wsX2_firstProperty := goodIn_r _ [14, 7, 55, 56, 57, 58, 59, 60, 61, 62] (by decide +kernel) (by decide +kernel)
set_option maxRecDepth 20000 in
theorem gX2_applyToPairs_X2_firstProperty : GoodIn wsX2_applyToPairs (wsV RX2 48 RX2 yX2_firstProperty wsX2_firstProperty) := goodIn_app (goodIn_of _ (by decide +kernel)) ggX2_applyToPairs_X2_firstProperty
set_option maxRecDepth 20000 in
theorem ggX2_applyToPairs_X2_settledParts : GoodIn wsX2_applyToPairs wsX2_settledParts := goodIn_r _ [18, 7, 2, 5, 6, 3, 55, 56, 57, 58, 59, 60, 61, 62, 63, 64, 65, 66, 67, 68, 69, 70, 71, 72, 73, 74] (by decide +kernel) (by decide +kernel)
set_option maxRecDepth 20000 in
theorem gX2_applyToPairs_X2_settledParts : GoodIn wsX2_applyToPairs (wsV RX2 71 RX2 yX2_settledParts wsX2_settledParts) := goodIn_app (goodIn_of _ (by decide +kernel)) ggX2_applyToPairs_X2_settledParts
set_option maxRecDepth 20000 in
theorem ggX2_applyToPairs_X2_makeOfTwo : GoodIn wsX2_applyToPairs wsX2_makeOfTwo := goodIn_r _ [22, 7, 23, 24, 25, 26, 13, 27, 2, 4, 9, 28, 29, 30, 31, 32, 33, 34, 35, 36, 37, 38, 39, 40, 41, 42, 43, 44, 45, 46, 47, 48, 49, 50, 51, 52, 53, 54, 55, 56, 57, 58, 59, 60, 61, 62, 63, 64, 65, 66, 67, 68, 69, 70, 71, 72, 73, 74, 75, 76] (by decide +kernel) (by decide +kernel)
set_option maxRecDepth 20000 in
theorem gX2_applyToPairs_X2_makeOfTwo : GoodIn wsX2_applyToPairs (wsV RX2 75 RX2 yX2_makeOfTwo wsX2_makeOfTwo) := goodIn_app (goodIn_of _ (by decide +kernel)) ggX2_applyToPairs_X2_makeOfTwo
theorem dX2_applyToPairs_0 : decode cX2_applyToPairs 0 = .ok (.aload_n 0, 1) := by decide +kernel
theorem dX2_applyToPairs_1 : decode cX2_applyToPairs 1 = .ok (.invokevirtual 48, 3) := by decide +kernel
theorem dX2_applyToPairs_4 : decode cX2_applyToPairs 4 = .ok (.istore_n 1, 1) := by decide +kernel
theorem dX2_applyToPairs_5 : decode cX2_applyToPairs 5 = .ok (.aload_n 0, 1) := by decide +kernel
theorem dX2_applyToPairs_6 : decode cX2_applyToPairs 6 = .ok (.invokevirtual 71, 3) := by decide +kernel
theorem dX2_applyToPairs_9 : decode cX2_applyToPairs 9 = .ok (.astore_n 2, 1) := by decide +kernel
theorem dX2_applyToPairs_10 : decode cX2_applyToPairs 10 = .ok (.iconst 0, 1) := by decide +kernel
theorem dX2_applyToPairs_11 : decode cX2_applyToPairs 11 = .ok (.istore_n 3, 1) := by decide +kernel
theorem dX2_applyToPairs_12 : decode cX2_applyToPairs 12 = .ok (.iload_n 3, 1) := by decide +kernel
theorem dX2_applyToPairs_13 : decode cX2_applyToPairs 13 = .ok (.aload_n 0, 1) := by decide +kernel
theorem dX2_applyToPairs_14 : decode cX2_applyToPairs 14 = .ok (.getfield 15, 3) := by decide +kernel
theorem dX2_applyToPairs_17 : decode cX2_applyToPairs 17 = .ok (.if_icmp .ge 161, 3) := by decide +kernel
theorem dX2_applyToPairs_20 : decode cX2_applyToPairs 20 = .ok (.aload_n 0, 1) := by decide +kernel
theorem dX2_applyToPairs_21 : decode cX2_applyToPairs 21 = .ok (.getfield 34, 3) := by decide +kernel
theorem dX2_applyToPairs_24 : decode cX2_applyToPairs 24 = .ok (.getfield 64, 3) := by decide +kernel
theorem dX2_applyToPairs_27 : decode cX2_applyToPairs 27 = .ok (.iload_n 3, 1) := by decide +kernel
theorem dX2_applyToPairs_28 : decode cX2_applyToPairs 28 = .ok (.iaload, 1) := by decide +kernel
theorem dX2_applyToPairs_29 : decode cX2_applyToPairs 29 = .ok (.iload_n 1, 1) := by decide +kernel
theorem dX2_applyToPairs_30 : decode cX2_applyToPairs 30 = .ok (.if_icmp .ne 142, 3) := by decide +kernel
theorem dX2_applyToPairs_33 : decode cX2_applyToPairs 33 = .ok (.aload_n 0, 1) := by decide +kernel
theorem dX2_applyToPairs_34 : decode cX2_applyToPairs 34 = .ok (.iload_n 3, 1) := by decide +kernel
theorem dX2_applyToPairs_35 : decode cX2_applyToPairs 35 = .ok (.putfield 24, 3) := by decide +kernel
theorem dX2_applyToPairs_38 : decode cX2_applyToPairs 38 = .ok (.aload_n 0, 1) := by decide +kernel
theorem dX2_applyToPairs_39 : decode cX2_applyToPairs 39 = .ok (.getfield 34, 3) := by decide +kernel
theorem dX2_applyToPairs_42 : decode cX2_applyToPairs 42 = .ok (.getfield 57, 3) := by decide +kernel
theorem dX2_applyToPairs_45 : decode cX2_applyToPairs 45 = .ok (.iload_n 3, 1) := by decide +kernel
theorem dX2_applyToPairs_46 : decode cX2_applyToPairs 46 = .ok (.iaload, 1) := by decide +kernel
theorem dX2_applyToPairs_47 : decode cX2_applyToPairs 47 = .ok (.istore 4, 2) := by decide +kernel
theorem dX2_applyToPairs_49 : decode cX2_applyToPairs 49 = .ok (.aload_n 0, 1) := by decide +kernel
theorem dX2_applyToPairs_50 : decode cX2_applyToPairs 50 = .ok (.getfield 34, 3) := by decide +kernel
theorem dX2_applyToPairs_53 : decode cX2_applyToPairs 53 = .ok (.getfield 61, 3) := by decide +kernel
theorem dX2_applyToPairs_56 : decode cX2_applyToPairs 56 = .ok (.iload_n 3, 1) := by decide +kernel
theorem dX2_applyToPairs_57 : decode cX2_applyToPairs 57 = .ok (.iaload, 1) := by decide +kernel
theorem dX2_applyToPairs_58 : decode cX2_applyToPairs 58 = .ok (.istore 5, 2) := by decide +kernel
theorem dX2_applyToPairs_60 : decode cX2_applyToPairs 60 = .ok (.aload_n 0, 1) := by decide +kernel
theorem dX2_applyToPairs_61 : decode cX2_applyToPairs 61 = .ok (.getfield 21, 3) := by decide +kernel
theorem dX2_applyToPairs_64 : decode cX2_applyToPairs 64 = .ok (.iconst 5, 1) := by decide +kernel
theorem dX2_applyToPairs_65 : decode cX2_applyToPairs 65 = .ok (.if_icmp .eq 12, 3) := by decide +kernel
theorem dX2_applyToPairs_68 : decode cX2_applyToPairs 68 = .ok (.aload_n 0, 1) := by decide +kernel
theorem dX2_applyToPairs_69 : decode cX2_applyToPairs 69 = .ok (.getfield 21, 3) := by decide +kernel
theorem dX2_applyToPairs_72 : decode cX2_applyToPairs 72 = .ok (.bipush 11, 2) := by decide +kernel
theorem dX2_applyToPairs_74 : decode cX2_applyToPairs 74 = .ok (.if_icmp .ne 8, 3) := by decide +kernel
theorem dX2_applyToPairs_77 : decode cX2_applyToPairs 77 = .ok (.iload 5, 2) := by decide +kernel
theorem dX2_applyToPairs_79 : decode cX2_applyToPairs 79 = .ok (.goto 5, 3) := by decide +kernel
theorem dX2_applyToPairs_82 : decode cX2_applyToPairs 82 = .ok (.iload 4, 2) := by decide +kernel
theorem dX2_applyToPairs_84 : decode cX2_applyToPairs 84 = .ok (.istore 6, 2) := by decide +kernel
theorem dX2_applyToPairs_86 : decode cX2_applyToPairs 86 = .ok (.iload_n 3, 1) := by decide +kernel
theorem dX2_applyToPairs_87 : decode cX2_applyToPairs 87 = .ok (.aload_n 0, 1) := by decide +kernel
theorem dX2_applyToPairs_88 : decode cX2_applyToPairs 88 = .ok (.getfield 9, 3) := by decide +kernel
theorem dX2_applyToPairs_91 : decode cX2_applyToPairs 91 = .ok (.if_icmp .ge 10, 3) := by decide +kernel
theorem dX2_applyToPairs_94 : decode cX2_applyToPairs 94 = .ok (.aload_n 0, 1) := by decide +kernel
theorem dX2_applyToPairs_95 : decode cX2_applyToPairs 95 = .ok (.getfield 9, 3) := by decide +kernel
theorem dX2_applyToPairs_98 : decode cX2_applyToPairs 98 = .ok (.goto 4, 3) := by decide +kernel
theorem dX2_applyToPairs_101 : decode cX2_applyToPairs 101 = .ok (.iconst 0, 1) := by decide +kernel
theorem dX2_applyToPairs_102 : decode cX2_applyToPairs 102 = .ok (.istore 7, 2) := by decide +kernel
theorem dX2_applyToPairs_104 : decode cX2_applyToPairs 104 = .ok (.iload 7, 2) := by decide +kernel
theorem dX2_applyToPairs_106 : decode cX2_applyToPairs 106 = .ok (.aload_n 0, 1) := by decide +kernel
theorem dX2_applyToPairs_107 : decode cX2_applyToPairs 107 = .ok (.getfield 15, 3) := by decide +kernel
theorem dX2_applyToPairs_110 : decode cX2_applyToPairs 110 = .ok (.if_icmp .ge 62, 3) := by decide +kernel
theorem dX2_applyToPairs_113 : decode cX2_applyToPairs 113 = .ok (.aload_n 2, 1) := by decide +kernel
theorem dX2_applyToPairs_114 : decode cX2_applyToPairs 114 = .ok (.iload 7, 2) := by decide +kernel
theorem dX2_applyToPairs_116 : decode cX2_applyToPairs 116 = .ok (.iaload, 1) := by decide +kernel
theorem dX2_applyToPairs_117 : decode cX2_applyToPairs 117 = .ok (.iload 6, 2) := by decide +kernel
theorem dX2_applyToPairs_119 : decode cX2_applyToPairs 119 = .ok (.if_icmp .ne 47, 3) := by decide +kernel
theorem dX2_applyToPairs_122 : decode cX2_applyToPairs 122 = .ok (.aload_n 0, 1) := by decide +kernel
theorem dX2_applyToPairs_123 : decode cX2_applyToPairs 123 = .ok (.iload 7, 2) := by decide +kernel
theorem dX2_applyToPairs_125 : decode cX2_applyToPairs 125 = .ok (.putfield 27, 3) := by decide +kernel
theorem dX2_applyToPairs_128 : decode cX2_applyToPairs 128 = .ok (.aload_n 0, 1) := by decide +kernel
theorem dX2_applyToPairs_129 : decode cX2_applyToPairs 129 = .ok (.iload 4, 2) := by decide +kernel
theorem dX2_applyToPairs_131 : decode cX2_applyToPairs 131 = .ok (.iload 5, 2) := by decide +kernel
theorem dX2_applyToPairs_133 : decode cX2_applyToPairs 133 = .ok (.aload_n 0, 1) := by decide +kernel
theorem dX2_applyToPairs_134 : decode cX2_applyToPairs 134 = .ok (.getfield 34, 3) := by decide +kernel
theorem dX2_applyToPairs_137 : decode cX2_applyToPairs 137 = .ok (.getfield 57, 3) := by decide +kernel
theorem dX2_applyToPairs_140 : decode cX2_applyToPairs 140 = .ok (.iload 7, 2) := by decide +kernel
theorem dX2_applyToPairs_142 : decode cX2_applyToPairs 142 = .ok (.iaload, 1) := by decide +kernel
theorem dX2_applyToPairs_143 : decode cX2_applyToPairs 143 = .ok (.aload_n 0, 1) := by decide +kernel
theorem dX2_applyToPairs_144 : decode cX2_applyToPairs 144 = .ok (.getfield 34, 3) := by decide +kernel
theorem dX2_applyToPairs_147 : decode cX2_applyToPairs 147 = .ok (.getfield 64, 3) := by decide +kernel
theorem dX2_applyToPairs_150 : decode cX2_applyToPairs 150 = .ok (.iload 7, 2) := by decide +kernel
theorem dX2_applyToPairs_152 : decode cX2_applyToPairs 152 = .ok (.iaload, 1) := by decide +kernel
theorem dX2_applyToPairs_153 : decode cX2_applyToPairs 153 = .ok (.aload_n 0, 1) := by decide +kernel
theorem dX2_applyToPairs_154 : decode cX2_applyToPairs 154 = .ok (.getfield 34, 3) := by decide +kernel
theorem dX2_applyToPairs_157 : decode cX2_applyToPairs 157 = .ok (.getfield 61, 3) := by decide +kernel
theorem dX2_applyToPairs_160 : decode cX2_applyToPairs 160 = .ok (.iload 7, 2) := by decide +kernel
theorem dX2_applyToPairs_162 : decode cX2_applyToPairs 162 = .ok (.iaload, 1) := by decide +kernel
theorem dX2_applyToPairs_163 : decode cX2_applyToPairs 163 = .ok (.invokevirtual 75, 3) := by decide +kernel
theorem dX2_applyToPairs_166 : decode cX2_applyToPairs 166 = .ok (.iinc 7 1, 3) := by decide +kernel
theorem dX2_applyToPairs_169 : decode cX2_applyToPairs 169 = .ok (.goto (-65), 3) := by decide +kernel
theorem dX2_applyToPairs_172 : decode cX2_applyToPairs 172 = .ok (.iinc 3 1, 3) := by decide +kernel
theorem dX2_applyToPairs_175 : decode cX2_applyToPairs 175 = .ok (.goto (-163), 3) := by decide +kernel
theorem dX2_applyToPairs_178 : decode cX2_applyToPairs 178 = .ok (.return_, 1) := by decide +kernel
set_option maxRecDepth 20000 in
theorem ggX2_makeOfOne_X4_isLiteral : GoodIn wsX2_makeOfOne wsX4_isLiteral := goodIn_r _ [7, 8, 52, 53] (by decide +kernel) (by decide +kernel)
set_option maxRecDepth 20000 in
theorem gX2_makeOfOne_X4_isLiteral : GoodIn wsX2_makeOfOne (wsV RX2 79 RX4 yX4_isLiteral wsX4_isLiteral) := goodIn_app (goodIn_of _ (by decide +kernel)) ggX2_makeOfOne_X4_isLiteral
set_option maxRecDepth 20000 in
theorem ggX2_makeOfOne_X4_typeOf : GoodIn wsX2_makeOfOne wsX4_typeOf := goodIn_r _ [12, 13, 14, 4, 5, 6, 7, 8, 52, 53] (by decide +kernel) (by decide +kernel)
set_option maxRecDepth 20000 in
theorem gX2_makeOfOne_X4_typeOf : GoodIn wsX2_makeOfOne (wsV RX2 85 RX4 yX4_typeOf wsX4_typeOf) := goodIn_app (goodIn_of _ (by decide +kernel)) ggX2_makeOfOne_X4_typeOf
set_option maxRecDepth 20000 in
theorem ggX2_makeOfOne_X2_make : GoodIn wsX2_makeOfOne wsX2_make := goodIn_r _ [19, 20, 1, 21, 22, 23, 24, 25, 26, 27, 28, 29, 30, 31, 32, 33, 34, 35, 36, 37, 38, 39, 40, 41, 42, 43, 44, 45, 46, 47, 48, 49, 50, 51, 54, 55, 56, 57, 58, 59, 60, 61, 62, 63, 64, 65] (by decide +kernel) (by decide +kernel)
set_option maxRecDepth 20000 in
theorem gX2_makeOfOne_X2_make : GoodIn wsX2_makeOfOne (wsV RX2 89 RX2 yX2_make wsX2_make) := goodIn_app (goodIn_of _ (by decide +kernel)) ggX2_makeOfOne_X2_make
theorem dX2_makeOfOne_0 : decode cX2_makeOfOne 0 = .ok (.aload_n 0, 1) := by decide +kernel
theorem dX2_makeOfOne_1 : decode cX2_makeOfOne 1 = .ok (.getfield 21, 3) := by decide +kernel
theorem dX2_makeOfOne_4 : decode cX2_makeOfOne 4 = .ok (.ifCond .ne 31, 3) := by decide +kernel
theorem dX2_makeOfOne_7 : decode cX2_makeOfOne 7 = .ok (.aload_n 0, 1) := by decide +kernel
theorem dX2_makeOfOne_8 : decode cX2_makeOfOne 8 = .ok (.getfield 30, 3) := by decide +kernel
theorem dX2_makeOfOne_11 : decode cX2_makeOfOne 11 = .ok (.iload_n 3, 1) := by decide +kernel
theorem dX2_makeOfOne_12 : decode cX2_makeOfOne 12 = .ok (.invokevirtual 79, 3) := by decide +kernel
theorem dX2_makeOfOne_15 : decode cX2_makeOfOne 15 = .ok (.ifCond .eq 20, 3) := by decide +kernel
theorem dX2_makeOfOne_18 : decode cX2_makeOfOne 18 = .ok (.aload_n 0, 1) := by decide +kernel
theorem dX2_makeOfOne_19 : decode cX2_makeOfOne 19 = .ok (.iload_n 3, 1) := by decide +kernel
theorem dX2_makeOfOne_20 : decode cX2_makeOfOne 20 = .ok (.iconst 0, 1) := by decide +kernel
theorem dX2_makeOfOne_21 : decode cX2_makeOfOne 21 = .ok (.aload_n 0, 1) := by decide +kernel
theorem dX2_makeOfOne_22 : decode cX2_makeOfOne 22 = .ok (.getfield 30, 3) := by decide +kernel
theorem dX2_makeOfOne_25 : decode cX2_makeOfOne 25 = .ok (.iload_n 3, 1) := by decide +kernel
theorem dX2_makeOfOne_26 : decode cX2_makeOfOne 26 = .ok (.invokevirtual 85, 3) := by decide +kernel
theorem dX2_makeOfOne_29 : decode cX2_makeOfOne 29 = .ok (.invokevirtual 89, 3) := by decide +kernel
theorem dX2_makeOfOne_32 : decode cX2_makeOfOne 32 = .ok (.goto 187, 3) := by decide +kernel
theorem dX2_makeOfOne_35 : decode cX2_makeOfOne 35 = .ok (.aload_n 0, 1) := by decide +kernel
theorem dX2_makeOfOne_36 : decode cX2_makeOfOne 36 = .ok (.getfield 21, 3) := by decide +kernel
theorem dX2_makeOfOne_39 : decode cX2_makeOfOne 39 = .ok (.iconst 1, 1) := by decide +kernel
theorem dX2_makeOfOne_40 : decode cX2_makeOfOne 40 = .ok (.if_icmp .ne 13, 3) := by decide +kernel
theorem dX2_makeOfOne_43 : decode cX2_makeOfOne 43 = .ok (.aload_n 0, 1) := by decide +kernel
theorem dX2_makeOfOne_44 : decode cX2_makeOfOne 44 = .ok (.iload_n 2, 1) := by decide +kernel
theorem dX2_makeOfOne_45 : decode cX2_makeOfOne 45 = .ok (.iconst 0, 1) := by decide +kernel
theorem dX2_makeOfOne_46 : decode cX2_makeOfOne 46 = .ok (.iconst 1, 1) := by decide +kernel
theorem dX2_makeOfOne_47 : decode cX2_makeOfOne 47 = .ok (.invokevirtual 89, 3) := by decide +kernel
theorem dX2_makeOfOne_50 : decode cX2_makeOfOne 50 = .ok (.goto 169, 3) := by decide +kernel
theorem dX2_makeOfOne_53 : decode cX2_makeOfOne 53 = .ok (.aload_n 0, 1) := by decide +kernel
theorem dX2_makeOfOne_54 : decode cX2_makeOfOne 54 = .ok (.getfield 21, 3) := by decide +kernel
theorem dX2_makeOfOne_57 : decode cX2_makeOfOne 57 = .ok (.iconst 4, 1) := by decide +kernel
theorem dX2_makeOfOne_58 : decode cX2_makeOfOne 58 = .ok (.if_icmp .ne 20, 3) := by decide +kernel
theorem dX2_makeOfOne_61 : decode cX2_makeOfOne 61 = .ok (.aload_n 0, 1) := by decide +kernel
theorem dX2_makeOfOne_62 : decode cX2_makeOfOne 62 = .ok (.iload_n 1, 1) := by decide +kernel
theorem dX2_makeOfOne_63 : decode cX2_makeOfOne 63 = .ok (.iconst 0, 1) := by decide +kernel
theorem dX2_makeOfOne_64 : decode cX2_makeOfOne 64 = .ok (.iconst 2, 1) := by decide +kernel
theorem dX2_makeOfOne_65 : decode cX2_makeOfOne 65 = .ok (.invokevirtual 89, 3) := by decide +kernel
theorem dX2_makeOfOne_68 : decode cX2_makeOfOne 68 = .ok (.aload_n 0, 1) := by decide +kernel
theorem dX2_makeOfOne_69 : decode cX2_makeOfOne 69 = .ok (.iload_n 3, 1) := by decide +kernel
theorem dX2_makeOfOne_70 : decode cX2_makeOfOne 70 = .ok (.iconst 0, 1) := by decide +kernel
theorem dX2_makeOfOne_71 : decode cX2_makeOfOne 71 = .ok (.iconst 2, 1) := by decide +kernel
theorem dX2_makeOfOne_72 : decode cX2_makeOfOne 72 = .ok (.invokevirtual 89, 3) := by decide +kernel
theorem dX2_makeOfOne_75 : decode cX2_makeOfOne 75 = .ok (.goto 144, 3) := by decide +kernel
theorem dX2_makeOfOne_78 : decode cX2_makeOfOne 78 = .ok (.aload_n 0, 1) := by decide +kernel
theorem dX2_makeOfOne_79 : decode cX2_makeOfOne 79 = .ok (.getfield 21, 3) := by decide +kernel
theorem dX2_makeOfOne_82 : decode cX2_makeOfOne 82 = .ok (.bipush 6, 2) := by decide +kernel
theorem dX2_makeOfOne_84 : decode cX2_makeOfOne 84 = .ok (.if_icmp .ne 22, 3) := by decide +kernel
theorem dX2_makeOfOne_87 : decode cX2_makeOfOne 87 = .ok (.iload_n 2, 1) := by decide +kernel
theorem dX2_makeOfOne_88 : decode cX2_makeOfOne 88 = .ok (.ifCond .ne 18, 3) := by decide +kernel
theorem dX2_makeOfOne_91 : decode cX2_makeOfOne 91 = .ok (.iload_n 3, 1) := by decide +kernel
theorem dX2_makeOfOne_92 : decode cX2_makeOfOne 92 = .ok (.iconst 1, 1) := by decide +kernel
theorem dX2_makeOfOne_93 : decode cX2_makeOfOne 93 = .ok (.if_icmp .ne 13, 3) := by decide +kernel
theorem dX2_makeOfOne_96 : decode cX2_makeOfOne 96 = .ok (.aload_n 0, 1) := by decide +kernel
theorem dX2_makeOfOne_97 : decode cX2_makeOfOne 97 = .ok (.iload_n 1, 1) := by decide +kernel
theorem dX2_makeOfOne_98 : decode cX2_makeOfOne 98 = .ok (.iconst 5, 1) := by decide +kernel
theorem dX2_makeOfOne_99 : decode cX2_makeOfOne 99 = .ok (.iload_n 1, 1) := by decide +kernel
theorem dX2_makeOfOne_100 : decode cX2_makeOfOne 100 = .ok (.invokevirtual 89, 3) := by decide +kernel
theorem dX2_makeOfOne_103 : decode cX2_makeOfOne 103 = .ok (.goto 116, 3) := by decide +kernel
theorem dX2_makeOfOne_106 : decode cX2_makeOfOne 106 = .ok (.aload_n 0, 1) := by decide +kernel
theorem dX2_makeOfOne_107 : decode cX2_makeOfOne 107 = .ok (.getfield 21, 3) := by decide +kernel
theorem dX2_makeOfOne_110 : decode cX2_makeOfOne 110 = .ok (.bipush 8, 2) := by decide +kernel
theorem dX2_makeOfOne_112 : decode cX2_makeOfOne 112 = .ok (.if_icmp .ne 22, 3) := by decide +kernel
theorem dX2_makeOfOne_115 : decode cX2_makeOfOne 115 = .ok (.iload_n 2, 1) := by decide +kernel
theorem dX2_makeOfOne_116 : decode cX2_makeOfOne 116 = .ok (.ifCond .ne 18, 3) := by decide +kernel
theorem dX2_makeOfOne_119 : decode cX2_makeOfOne 119 = .ok (.iload_n 3, 1) := by decide +kernel
theorem dX2_makeOfOne_120 : decode cX2_makeOfOne 120 = .ok (.iconst 3, 1) := by decide +kernel
theorem dX2_makeOfOne_121 : decode cX2_makeOfOne 121 = .ok (.if_icmp .ne 13, 3) := by decide +kernel
theorem dX2_makeOfOne_124 : decode cX2_makeOfOne 124 = .ok (.aload_n 0, 1) := by decide +kernel
theorem dX2_makeOfOne_125 : decode cX2_makeOfOne 125 = .ok (.iload_n 1, 1) := by decide +kernel
theorem dX2_makeOfOne_126 : decode cX2_makeOfOne 126 = .ok (.iconst 4, 1) := by decide +kernel
theorem dX2_makeOfOne_127 : decode cX2_makeOfOne 127 = .ok (.iconst 2, 1) := by decide +kernel
theorem dX2_makeOfOne_128 : decode cX2_makeOfOne 128 = .ok (.invokevirtual 89, 3) := by decide +kernel
theorem dX2_makeOfOne_131 : decode cX2_makeOfOne 131 = .ok (.goto 88, 3) := by decide +kernel
theorem dX2_makeOfOne_134 : decode cX2_makeOfOne 134 = .ok (.aload_n 0, 1) := by decide +kernel
theorem dX2_makeOfOne_135 : decode cX2_makeOfOne 135 = .ok (.getfield 21, 3) := by decide +kernel
theorem dX2_makeOfOne_138 : decode cX2_makeOfOne 138 = .ok (.bipush 10, 2) := by decide +kernel
theorem dX2_makeOfOne_140 : decode cX2_makeOfOne 140 = .ok (.if_icmp .ne 22, 3) := by decide +kernel
theorem dX2_makeOfOne_143 : decode cX2_makeOfOne 143 = .ok (.iload_n 2, 1) := by decide +kernel
theorem dX2_makeOfOne_144 : decode cX2_makeOfOne 144 = .ok (.ifCond .ne 18, 3) := by decide +kernel
theorem dX2_makeOfOne_147 : decode cX2_makeOfOne 147 = .ok (.iload_n 3, 1) := by decide +kernel
theorem dX2_makeOfOne_148 : decode cX2_makeOfOne 148 = .ok (.iconst 3, 1) := by decide +kernel
theorem dX2_makeOfOne_149 : decode cX2_makeOfOne 149 = .ok (.if_icmp .ne 13, 3) := by decide +kernel
theorem dX2_makeOfOne_152 : decode cX2_makeOfOne 152 = .ok (.aload_n 0, 1) := by decide +kernel
theorem dX2_makeOfOne_153 : decode cX2_makeOfOne 153 = .ok (.iload_n 1, 1) := by decide +kernel
theorem dX2_makeOfOne_154 : decode cX2_makeOfOne 154 = .ok (.iconst 4, 1) := by decide +kernel
theorem dX2_makeOfOne_155 : decode cX2_makeOfOne 155 = .ok (.iload_n 1, 1) := by decide +kernel
theorem dX2_makeOfOne_156 : decode cX2_makeOfOne 156 = .ok (.invokevirtual 89, 3) := by decide +kernel
theorem dX2_makeOfOne_159 : decode cX2_makeOfOne 159 = .ok (.goto 60, 3) := by decide +kernel
theorem dX2_makeOfOne_162 : decode cX2_makeOfOne 162 = .ok (.aload_n 0, 1) := by decide +kernel
theorem dX2_makeOfOne_163 : decode cX2_makeOfOne 163 = .ok (.getfield 21, 3) := by decide +kernel
theorem dX2_makeOfOne_166 : decode cX2_makeOfOne 166 = .ok (.bipush 12, 2) := by decide +kernel
theorem dX2_makeOfOne_168 : decode cX2_makeOfOne 168 = .ok (.if_icmp .ne 24, 3) := by decide +kernel
theorem dX2_makeOfOne_171 : decode cX2_makeOfOne 171 = .ok (.iload_n 2, 1) := by decide +kernel
theorem dX2_makeOfOne_172 : decode cX2_makeOfOne 172 = .ok (.ifCond .ne 20, 3) := by decide +kernel
theorem dX2_makeOfOne_175 : decode cX2_makeOfOne 175 = .ok (.iload_n 3, 1) := by decide +kernel
theorem dX2_makeOfOne_176 : decode cX2_makeOfOne 176 = .ok (.bipush 11, 2) := by decide +kernel
theorem dX2_makeOfOne_178 : decode cX2_makeOfOne 178 = .ok (.if_icmp .ne 14, 3) := by decide +kernel
theorem dX2_makeOfOne_181 : decode cX2_makeOfOne 181 = .ok (.aload_n 0, 1) := by decide +kernel
theorem dX2_makeOfOne_182 : decode cX2_makeOfOne 182 = .ok (.iload_n 1, 1) := by decide +kernel
theorem dX2_makeOfOne_183 : decode cX2_makeOfOne 183 = .ok (.iconst 5, 1) := by decide +kernel
theorem dX2_makeOfOne_184 : decode cX2_makeOfOne 184 = .ok (.bipush 10, 2) := by decide +kernel
theorem dX2_makeOfOne_186 : decode cX2_makeOfOne 186 = .ok (.invokevirtual 89, 3) := by decide +kernel
theorem dX2_makeOfOne_189 : decode cX2_makeOfOne 189 = .ok (.goto 30, 3) := by decide +kernel
theorem dX2_makeOfOne_192 : decode cX2_makeOfOne 192 = .ok (.aload_n 0, 1) := by decide +kernel
theorem dX2_makeOfOne_193 : decode cX2_makeOfOne 193 = .ok (.getfield 21, 3) := by decide +kernel
theorem dX2_makeOfOne_196 : decode cX2_makeOfOne 196 = .ok (.bipush 13, 2) := by decide +kernel
theorem dX2_makeOfOne_198 : decode cX2_makeOfOne 198 = .ok (.if_icmp .ne 21, 3) := by decide +kernel
theorem dX2_makeOfOne_201 : decode cX2_makeOfOne 201 = .ok (.iload_n 2, 1) := by decide +kernel
theorem dX2_makeOfOne_202 : decode cX2_makeOfOne 202 = .ok (.ifCond .ne 17, 3) := by decide +kernel
theorem dX2_makeOfOne_205 : decode cX2_makeOfOne 205 = .ok (.iload_n 3, 1) := by decide +kernel
theorem dX2_makeOfOne_206 : decode cX2_makeOfOne 206 = .ok (.bipush 9, 2) := by decide +kernel
theorem dX2_makeOfOne_208 : decode cX2_makeOfOne 208 = .ok (.if_icmp .ne 11, 3) := by decide +kernel
theorem dX2_makeOfOne_211 : decode cX2_makeOfOne 211 = .ok (.aload_n 0, 1) := by decide +kernel
theorem dX2_makeOfOne_212 : decode cX2_makeOfOne 212 = .ok (.iload_n 1, 1) := by decide +kernel
theorem dX2_makeOfOne_213 : decode cX2_makeOfOne 213 = .ok (.iconst 4, 1) := by decide +kernel
theorem dX2_makeOfOne_214 : decode cX2_makeOfOne 214 = .ok (.bipush 8, 2) := by decide +kernel
theorem dX2_makeOfOne_216 : decode cX2_makeOfOne 216 = .ok (.invokevirtual 89, 3) := by decide +kernel
theorem dX2_makeOfOne_219 : decode cX2_makeOfOne 219 = .ok (.return_, 1) := by decide +kernel
set_option maxRecDepth 20000 in
theorem ggX2_makeOfTwo_X2_make : GoodIn wsX2_makeOfTwo wsX2_make := goodIn_r _ [7, 8, 1, 9, 10, 11, 12, 13, 14, 15, 16, 17, 18, 19, 20, 21, 22, 23, 24, 25, 26, 27, 28, 29, 30, 31, 38, 39, 40, 41, 42, 43, 44, 45, 46, 47, 48, 49, 50, 51, 52, 53, 54, 55, 56, 57] (by decide +kernel) (by decide +kernel)
set_option maxRecDepth 20000 in
theorem gX2_makeOfTwo_X2_make : GoodIn wsX2_makeOfTwo (wsV RX2 89 RX2 yX2_make wsX2_make) := goodIn_app (goodIn_of _ (by decide +kernel)) ggX2_makeOfTwo_X2_make
set_option maxRecDepth 20000 in
theorem ggX2_makeOfTwo_X4_isLiteral : GoodIn wsX2_makeOfTwo wsX4_isLiteral := goodIn_r _ [36, 37, 58, 59] (by decide +kernel) (by decide +kernel)
set_option maxRecDepth 20000 in
theorem gX2_makeOfTwo_X4_isLiteral : GoodIn wsX2_makeOfTwo (wsV RX2 79 RX4 yX4_isLiteral wsX4_isLiteral) := goodIn_app (goodIn_of _ (by decide +kernel)) ggX2_makeOfTwo_X4_isLiteral
theorem dX2_makeOfTwo_0 : decode cX2_makeOfTwo 0 = .ok (.aload_n 0, 1) := by decide +kernel
theorem dX2_makeOfTwo_1 : decode cX2_makeOfTwo 1 = .ok (.getfield 21, 3) := by decide +kernel
theorem dX2_makeOfTwo_4 : decode cX2_makeOfTwo 4 = .ok (.iconst 2, 1) := by decide +kernel
theorem dX2_makeOfTwo_5 : decode cX2_makeOfTwo 5 = .ok (.if_icmp .ne 19, 3) := by decide +kernel
theorem dX2_makeOfTwo_8 : decode cX2_makeOfTwo 8 = .ok (.iload 4, 2) := by decide +kernel
theorem dX2_makeOfTwo_10 : decode cX2_makeOfTwo 10 = .ok (.iload_n 1, 1) := by decide +kernel
theorem dX2_makeOfTwo_11 : decode cX2_makeOfTwo 11 = .ok (.if_icmp .ne 13, 3) := by decide +kernel
theorem dX2_makeOfTwo_14 : decode cX2_makeOfTwo 14 = .ok (.aload_n 0, 1) := by decide +kernel
theorem dX2_makeOfTwo_15 : decode cX2_makeOfTwo 15 = .ok (.iload_n 3, 1) := by decide +kernel
theorem dX2_makeOfTwo_16 : decode cX2_makeOfTwo 16 = .ok (.iconst 0, 1) := by decide +kernel
theorem dX2_makeOfTwo_17 : decode cX2_makeOfTwo 17 = .ok (.iload_n 2, 1) := by decide +kernel
theorem dX2_makeOfTwo_18 : decode cX2_makeOfTwo 18 = .ok (.invokevirtual 89, 3) := by decide +kernel
theorem dX2_makeOfTwo_21 : decode cX2_makeOfTwo 21 = .ok (.goto 153, 3) := by decide +kernel
theorem dX2_makeOfTwo_24 : decode cX2_makeOfTwo 24 = .ok (.aload_n 0, 1) := by decide +kernel
theorem dX2_makeOfTwo_25 : decode cX2_makeOfTwo 25 = .ok (.getfield 21, 3) := by decide +kernel
theorem dX2_makeOfTwo_28 : decode cX2_makeOfTwo 28 = .ok (.iconst 3, 1) := by decide +kernel
theorem dX2_makeOfTwo_29 : decode cX2_makeOfTwo 29 = .ok (.if_icmp .ne 20, 3) := by decide +kernel
theorem dX2_makeOfTwo_32 : decode cX2_makeOfTwo 32 = .ok (.iload 4, 2) := by decide +kernel
theorem dX2_makeOfTwo_34 : decode cX2_makeOfTwo 34 = .ok (.iload_n 1, 1) := by decide +kernel
theorem dX2_makeOfTwo_35 : decode cX2_makeOfTwo 35 = .ok (.if_icmp .ne 14, 3) := by decide +kernel
theorem dX2_makeOfTwo_38 : decode cX2_makeOfTwo 38 = .ok (.aload_n 0, 1) := by decide +kernel
theorem dX2_makeOfTwo_39 : decode cX2_makeOfTwo 39 = .ok (.iload 5, 2) := by decide +kernel
theorem dX2_makeOfTwo_41 : decode cX2_makeOfTwo 41 = .ok (.iconst 0, 1) := by decide +kernel
theorem dX2_makeOfTwo_42 : decode cX2_makeOfTwo 42 = .ok (.iload_n 2, 1) := by decide +kernel
theorem dX2_makeOfTwo_43 : decode cX2_makeOfTwo 43 = .ok (.invokevirtual 89, 3) := by decide +kernel
theorem dX2_makeOfTwo_46 : decode cX2_makeOfTwo 46 = .ok (.goto 128, 3) := by decide +kernel
theorem dX2_makeOfTwo_49 : decode cX2_makeOfTwo 49 = .ok (.aload_n 0, 1) := by decide +kernel
theorem dX2_makeOfTwo_50 : decode cX2_makeOfTwo 50 = .ok (.getfield 21, 3) := by decide +kernel
theorem dX2_makeOfTwo_53 : decode cX2_makeOfTwo 53 = .ok (.iconst 5, 1) := by decide +kernel
theorem dX2_makeOfTwo_54 : decode cX2_makeOfTwo 54 = .ok (.if_icmp .ne 25, 3) := by decide +kernel
theorem dX2_makeOfTwo_57 : decode cX2_makeOfTwo 57 = .ok (.iload 4, 2) := by decide +kernel
theorem dX2_makeOfTwo_59 : decode cX2_makeOfTwo 59 = .ok (.iconst 5, 1) := by decide +kernel
theorem dX2_makeOfTwo_60 : decode cX2_makeOfTwo 60 = .ok (.if_icmp .ne 19, 3) := by decide +kernel
theorem dX2_makeOfTwo_63 : decode cX2_makeOfTwo 63 = .ok (.iload_n 3, 1) := by decide +kernel
theorem dX2_makeOfTwo_64 : decode cX2_makeOfTwo 64 = .ok (.iload_n 2, 1) := by decide +kernel
theorem dX2_makeOfTwo_65 : decode cX2_makeOfTwo 65 = .ok (.if_icmp .ne 14, 3) := by decide +kernel
theorem dX2_makeOfTwo_68 : decode cX2_makeOfTwo 68 = .ok (.aload_n 0, 1) := by decide +kernel
theorem dX2_makeOfTwo_69 : decode cX2_makeOfTwo 69 = .ok (.iload_n 1, 1) := by decide +kernel
theorem dX2_makeOfTwo_70 : decode cX2_makeOfTwo 70 = .ok (.iconst 5, 1) := by decide +kernel
theorem dX2_makeOfTwo_71 : decode cX2_makeOfTwo 71 = .ok (.iload 5, 2) := by decide +kernel
theorem dX2_makeOfTwo_73 : decode cX2_makeOfTwo 73 = .ok (.invokevirtual 89, 3) := by decide +kernel
theorem dX2_makeOfTwo_76 : decode cX2_makeOfTwo 76 = .ok (.goto 98, 3) := by decide +kernel
theorem dX2_makeOfTwo_79 : decode cX2_makeOfTwo 79 = .ok (.aload_n 0, 1) := by decide +kernel
theorem dX2_makeOfTwo_80 : decode cX2_makeOfTwo 80 = .ok (.getfield 21, 3) := by decide +kernel
theorem dX2_makeOfTwo_83 : decode cX2_makeOfTwo 83 = .ok (.bipush 7, 2) := by decide +kernel
theorem dX2_makeOfTwo_85 : decode cX2_makeOfTwo 85 = .ok (.if_icmp .ne 31, 3) := by decide +kernel
theorem dX2_makeOfTwo_88 : decode cX2_makeOfTwo 88 = .ok (.iload 4, 2) := by decide +kernel
theorem dX2_makeOfTwo_90 : decode cX2_makeOfTwo 90 = .ok (.iload_n 1, 1) := by decide +kernel
theorem dX2_makeOfTwo_91 : decode cX2_makeOfTwo 91 = .ok (.if_icmp .ne 25, 3) := by decide +kernel
theorem dX2_makeOfTwo_94 : decode cX2_makeOfTwo 94 = .ok (.aload_n 0, 1) := by decide +kernel
theorem dX2_makeOfTwo_95 : decode cX2_makeOfTwo 95 = .ok (.getfield 30, 3) := by decide +kernel
theorem dX2_makeOfTwo_98 : decode cX2_makeOfTwo 98 = .ok (.iload_n 2, 1) := by decide +kernel
theorem dX2_makeOfTwo_99 : decode cX2_makeOfTwo 99 = .ok (.invokevirtual 79, 3) := by decide +kernel
theorem dX2_makeOfTwo_102 : decode cX2_makeOfTwo 102 = .ok (.ifCond .ne 14, 3) := by decide +kernel
theorem dX2_makeOfTwo_105 : decode cX2_makeOfTwo 105 = .ok (.aload_n 0, 1) := by decide +kernel
theorem dX2_makeOfTwo_106 : decode cX2_makeOfTwo 106 = .ok (.iload_n 3, 1) := by decide +kernel
theorem dX2_makeOfTwo_107 : decode cX2_makeOfTwo 107 = .ok (.iload_n 2, 1) := by decide +kernel
theorem dX2_makeOfTwo_108 : decode cX2_makeOfTwo 108 = .ok (.iload 5, 2) := by decide +kernel
theorem dX2_makeOfTwo_110 : decode cX2_makeOfTwo 110 = .ok (.invokevirtual 89, 3) := by decide +kernel
theorem dX2_makeOfTwo_113 : decode cX2_makeOfTwo 113 = .ok (.goto 61, 3) := by decide +kernel
theorem dX2_makeOfTwo_116 : decode cX2_makeOfTwo 116 = .ok (.aload_n 0, 1) := by decide +kernel
theorem dX2_makeOfTwo_117 : decode cX2_makeOfTwo 117 = .ok (.getfield 21, 3) := by decide +kernel
theorem dX2_makeOfTwo_120 : decode cX2_makeOfTwo 120 = .ok (.bipush 9, 2) := by decide +kernel
theorem dX2_makeOfTwo_122 : decode cX2_makeOfTwo 122 = .ok (.if_icmp .ne 24, 3) := by decide +kernel
theorem dX2_makeOfTwo_125 : decode cX2_makeOfTwo 125 = .ok (.iload 4, 2) := by decide +kernel
theorem dX2_makeOfTwo_127 : decode cX2_makeOfTwo 127 = .ok (.ifCond .ne 19, 3) := by decide +kernel
theorem dX2_makeOfTwo_130 : decode cX2_makeOfTwo 130 = .ok (.iload 5, 2) := by decide +kernel
theorem dX2_makeOfTwo_132 : decode cX2_makeOfTwo 132 = .ok (.iload_n 1, 1) := by decide +kernel
theorem dX2_makeOfTwo_133 : decode cX2_makeOfTwo 133 = .ok (.if_icmp .ne 13, 3) := by decide +kernel
theorem dX2_makeOfTwo_136 : decode cX2_makeOfTwo 136 = .ok (.aload_n 0, 1) := by decide +kernel
theorem dX2_makeOfTwo_137 : decode cX2_makeOfTwo 137 = .ok (.iload_n 3, 1) := by decide +kernel
theorem dX2_makeOfTwo_138 : decode cX2_makeOfTwo 138 = .ok (.iconst 0, 1) := by decide +kernel
theorem dX2_makeOfTwo_139 : decode cX2_makeOfTwo 139 = .ok (.iload_n 2, 1) := by decide +kernel
theorem dX2_makeOfTwo_140 : decode cX2_makeOfTwo 140 = .ok (.invokevirtual 89, 3) := by decide +kernel
theorem dX2_makeOfTwo_143 : decode cX2_makeOfTwo 143 = .ok (.goto 31, 3) := by decide +kernel
theorem dX2_makeOfTwo_146 : decode cX2_makeOfTwo 146 = .ok (.aload_n 0, 1) := by decide +kernel
theorem dX2_makeOfTwo_147 : decode cX2_makeOfTwo 147 = .ok (.getfield 21, 3) := by decide +kernel
theorem dX2_makeOfTwo_150 : decode cX2_makeOfTwo 150 = .ok (.bipush 11, 2) := by decide +kernel
theorem dX2_makeOfTwo_152 : decode cX2_makeOfTwo 152 = .ok (.if_icmp .ne 22, 3) := by decide +kernel
theorem dX2_makeOfTwo_155 : decode cX2_makeOfTwo 155 = .ok (.iload 4, 2) := by decide +kernel
theorem dX2_makeOfTwo_157 : decode cX2_makeOfTwo 157 = .ok (.iconst 4, 1) := by decide +kernel
theorem dX2_makeOfTwo_158 : decode cX2_makeOfTwo 158 = .ok (.if_icmp .ne 16, 3) := by decide +kernel
theorem dX2_makeOfTwo_161 : decode cX2_makeOfTwo 161 = .ok (.iload_n 3, 1) := by decide +kernel
theorem dX2_makeOfTwo_162 : decode cX2_makeOfTwo 162 = .ok (.iload_n 2, 1) := by decide +kernel
theorem dX2_makeOfTwo_163 : decode cX2_makeOfTwo 163 = .ok (.if_icmp .ne 11, 3) := by decide +kernel
theorem dX2_makeOfTwo_166 : decode cX2_makeOfTwo 166 = .ok (.aload_n 0, 1) := by decide +kernel
theorem dX2_makeOfTwo_167 : decode cX2_makeOfTwo 167 = .ok (.iload_n 1, 1) := by decide +kernel
theorem dX2_makeOfTwo_168 : decode cX2_makeOfTwo 168 = .ok (.iconst 4, 1) := by decide +kernel
theorem dX2_makeOfTwo_169 : decode cX2_makeOfTwo 169 = .ok (.iload 5, 2) := by decide +kernel
theorem dX2_makeOfTwo_171 : decode cX2_makeOfTwo 171 = .ok (.invokevirtual 89, 3) := by decide +kernel
theorem dX2_makeOfTwo_174 : decode cX2_makeOfTwo 174 = .ok (.return_, 1) := by decide +kernel
set_option maxRecDepth 20000 in
theorem ggX2_make_X3_addNew : GoodIn wsX2_make wsX3_addNew := goodIn_r _ [10, 11, 12, 13, 14, 15, 16, 17, 18, 19, 20, 21, 22, 23, 9, 24, 25, 34, 35, 36, 37, 38, 39, 40, 41, 42, 43, 44, 45] (by decide +kernel) (by decide +kernel)
set_option maxRecDepth 20000 in
theorem gX2_make_X3_addNew : GoodIn wsX2_make (wsV RX2 92 RX3 yX3_addNew wsX3_addNew) := goodIn_app (goodIn_of _ (by decide +kernel)) ggX2_make_X3_addNew
theorem dX2_make_0 : decode cX2_make 0 = .ok (.aload_n 0, 1) := by decide +kernel
theorem dX2_make_1 : decode cX2_make 1 = .ok (.getfield 34, 3) := by decide +kernel
theorem dX2_make_4 : decode cX2_make 4 = .ok (.iload_n 1, 1) := by decide +kernel
theorem dX2_make_5 : decode cX2_make 5 = .ok (.iload_n 2, 1) := by decide +kernel
theorem dX2_make_6 : decode cX2_make 6 = .ok (.iload_n 3, 1) := by decide +kernel
theorem dX2_make_7 : decode cX2_make 7 = .ok (.aload_n 0, 1) := by decide +kernel
theorem dX2_make_8 : decode cX2_make 8 = .ok (.getfield 21, 3) := by decide +kernel
theorem dX2_make_11 : decode cX2_make 11 = .ok (.aload_n 0, 1) := by decide +kernel
theorem dX2_make_12 : decode cX2_make 12 = .ok (.getfield 24, 3) := by decide +kernel
theorem dX2_make_15 : decode cX2_make 15 = .ok (.aload_n 0, 1) := by decide +kernel
theorem dX2_make_16 : decode cX2_make 16 = .ok (.getfield 27, 3) := by decide +kernel
theorem dX2_make_19 : decode cX2_make 19 = .ok (.aload_n 0, 1) := by decide +kernel
theorem dX2_make_20 : decode cX2_make 20 = .ok (.getfield 18, 3) := by decide +kernel
theorem dX2_make_23 : decode cX2_make 23 = .ok (.invokevirtual 92, 3) := by decide +kernel
theorem dX2_make_26 : decode cX2_make 26 = .ok (.return_, 1) := by decide +kernel
set_option maxRecDepth 20000 in
theorem ggX3_init_J7_fill_53178 : GoodIn wsX3_init wsJ7_fill_53178 := goodIn_r _ [21] (by decide +kernel) (by decide +kernel)
set_option maxRecDepth 20000 in
theorem gX3_init_J7_fill_53178 : GoodIn wsX3_init (va_wsS RX3 51 yJ7_fill_53178 wsJ7_fill_53178) := goodIn_app (goodIn_of _ (by decide +kernel)) ggX3_init_J7_fill_53178
theorem dX3_init_0 : decode cX3_init 0 = .ok (.aload_n 0, 1) := by decide +kernel
theorem dX3_init_1 : decode cX3_init 1 = .ok (.invokespecial 3, 3) := by decide +kernel
theorem dX3_init_4 : decode cX3_init 4 = .ok (.aload_n 0, 1) := by decide +kernel
theorem dX3_init_5 : decode cX3_init 5 = .ok (.sipush 600, 3) := by decide +kernel
theorem dX3_init_8 : decode cX3_init 8 = .ok (.newarray .int, 2) := by decide +kernel
theorem dX3_init_10 : decode cX3_init 10 = .ok (.putfield 9, 3) := by decide +kernel
theorem dX3_init_13 : decode cX3_init 13 = .ok (.aload_n 0, 1) := by decide +kernel
theorem dX3_init_14 : decode cX3_init 14 = .ok (.sipush 600, 3) := by decide +kernel
theorem dX3_init_17 : decode cX3_init 17 = .ok (.newarray .int, 2) := by decide +kernel
theorem dX3_init_19 : decode cX3_init 19 = .ok (.putfield 15, 3) := by decide +kernel
theorem dX3_init_22 : decode cX3_init 22 = .ok (.aload_n 0, 1) := by decide +kernel
theorem dX3_init_23 : decode cX3_init 23 = .ok (.sipush 600, 3) := by decide +kernel
theorem dX3_init_26 : decode cX3_init 26 = .ok (.newarray .int, 2) := by decide +kernel
theorem dX3_init_28 : decode cX3_init 28 = .ok (.putfield 18, 3) := by decide +kernel
theorem dX3_init_31 : decode cX3_init 31 = .ok (.aload_n 0, 1) := by decide +kernel
theorem dX3_init_32 : decode cX3_init 32 = .ok (.sipush 600, 3) := by decide +kernel
theorem dX3_init_35 : decode cX3_init 35 = .ok (.newarray .int, 2) := by decide +kernel
theorem dX3_init_37 : decode cX3_init 37 = .ok (.putfield 21, 3) := by decide +kernel
theorem dX3_init_40 : decode cX3_init 40 = .ok (.aload_n 0, 1) := by decide +kernel
theorem dX3_init_41 : decode cX3_init 41 = .ok (.sipush 600, 3) := by decide +kernel
theorem dX3_init_44 : decode cX3_init 44 = .ok (.newarray .int, 2) := by decide +kernel
theorem dX3_init_46 : decode cX3_init 46 = .ok (.putfield 24, 3) := by decide +kernel
theorem dX3_init_49 : decode cX3_init 49 = .ok (.aload_n 0, 1) := by decide +kernel
theorem dX3_init_50 : decode cX3_init 50 = .ok (.sipush 600, 3) := by decide +kernel
theorem dX3_init_53 : decode cX3_init 53 = .ok (.newarray .int, 2) := by decide +kernel
theorem dX3_init_55 : decode cX3_init 55 = .ok (.putfield 27, 3) := by decide +kernel
theorem dX3_init_58 : decode cX3_init 58 = .ok (.aload_n 0, 1) := by decide +kernel
theorem dX3_init_59 : decode cX3_init 59 = .ok (.sipush 600, 3) := by decide +kernel
theorem dX3_init_62 : decode cX3_init 62 = .ok (.newarray .int, 2) := by decide +kernel
theorem dX3_init_64 : decode cX3_init 64 = .ok (.putfield 30, 3) := by decide +kernel
theorem dX3_init_67 : decode cX3_init 67 = .ok (.aload_n 0, 1) := by decide +kernel
theorem dX3_init_68 : decode cX3_init 68 = .ok (.sipush 1024, 3) := by decide +kernel
theorem dX3_init_71 : decode cX3_init 71 = .ok (.newarray .int, 2) := by decide +kernel
theorem dX3_init_73 : decode cX3_init 73 = .ok (.putfield 33, 3) := by decide +kernel
theorem dX3_init_76 : decode cX3_init 76 = .ok (.aload_n 0, 1) := by decide +kernel
theorem dX3_init_77 : decode cX3_init 77 = .ok (.sipush 600, 3) := by decide +kernel
theorem dX3_init_80 : decode cX3_init 80 = .ok (.newarray .boolean, 2) := by decide +kernel
theorem dX3_init_82 : decode cX3_init 82 = .ok (.putfield 36, 3) := by decide +kernel
theorem dX3_init_85 : decode cX3_init 85 = .ok (.aload_n 0, 1) := by decide +kernel
theorem dX3_init_86 : decode cX3_init 86 = .ok (.iconst 0, 1) := by decide +kernel
theorem dX3_init_87 : decode cX3_init 87 = .ok (.putfield 40, 3) := by decide +kernel
theorem dX3_init_90 : decode cX3_init 90 = .ok (.aload_n 0, 1) := by decide +kernel
theorem dX3_init_91 : decode cX3_init 91 = .ok (.iconst 0, 1) := by decide +kernel
theorem dX3_init_92 : decode cX3_init 92 = .ok (.putfield 44, 3) := by decide +kernel
theorem dX3_init_95 : decode cX3_init 95 = .ok (.aload_n 0, 1) := by decide +kernel
theorem dX3_init_96 : decode cX3_init 96 = .ok (.iconst 0, 1) := by decide +kernel
theorem dX3_init_97 : decode cX3_init 97 = .ok (.putfield 48, 3) := by decide +kernel
theorem dX3_init_100 : decode cX3_init 100 = .ok (.aload_n 0, 1) := by decide +kernel
theorem dX3_init_101 : decode cX3_init 101 = .ok (.getfield 33, 3) := by decide +kernel
theorem dX3_init_104 : decode cX3_init 104 = .ok (.iconst (-1), 1) := by decide +kernel
theorem dX3_init_105 : decode cX3_init 105 = .ok (.invokestatic 51, 3) := by decide +kernel
theorem dX3_init_108 : decode cX3_init 108 = .ok (.return_, 1) := by decide +kernel
set_option maxRecDepth 20000 in
theorem ggX3_restart_J7_fill_53178 : GoodIn wsX3_restart wsJ7_fill_53178 := goodIn_r _ [8] (by decide +kernel) (by decide +kernel)
set_option maxRecDepth 20000 in
theorem gX3_restart_J7_fill_53178 : GoodIn wsX3_restart (va_wsS RX3 51 yJ7_fill_53178 wsJ7_fill_53178) := goodIn_app (goodIn_of _ (by decide +kernel)) ggX3_restart_J7_fill_53178
theorem dX3_restart_0 : decode cX3_restart 0 = .ok (.aload_n 0, 1) := by decide +kernel
theorem dX3_restart_1 : decode cX3_restart 1 = .ok (.getfield 33, 3) := by decide +kernel
theorem dX3_restart_4 : decode cX3_restart 4 = .ok (.iconst (-1), 1) := by decide +kernel
theorem dX3_restart_5 : decode cX3_restart 5 = .ok (.invokestatic 51, 3) := by decide +kernel
theorem dX3_restart_8 : decode cX3_restart 8 = .ok (.aload_n 0, 1) := by decide +kernel
theorem dX3_restart_9 : decode cX3_restart 9 = .ok (.iconst 0, 1) := by decide +kernel
theorem dX3_restart_10 : decode cX3_restart 10 = .ok (.putfield 40, 3) := by decide +kernel
theorem dX3_restart_13 : decode cX3_restart 13 = .ok (.aload_n 0, 1) := by decide +kernel
theorem dX3_restart_14 : decode cX3_restart 14 = .ok (.iconst 0, 1) := by decide +kernel
theorem dX3_restart_15 : decode cX3_restart 15 = .ok (.putfield 44, 3) := by decide +kernel
theorem dX3_restart_18 : decode cX3_restart 18 = .ok (.aload_n 0, 1) := by decide +kernel
theorem dX3_restart_19 : decode cX3_restart 19 = .ok (.iload_n 1, 1) := by decide +kernel
theorem dX3_restart_20 : decode cX3_restart 20 = .ok (.putfield 48, 3) := by decide +kernel
theorem dX3_restart_23 : decode cX3_restart 23 = .ok (.return_, 1) := by decide +kernel
theorem dX3_size_0 : decode cX3_size 0 = .ok (.aload_n 0, 1) := by decide +kernel
theorem dX3_size_1 : decode cX3_size 1 = .ok (.getfield 40, 3) := by decide +kernel
theorem dX3_size_4 : decode cX3_size 4 = .ok (.ireturn, 1) := by decide +kernel
theorem dX3_isOverfull_0 : decode cX3_isOverfull 0 = .ok (.aload_n 0, 1) := by decide +kernel
theorem dX3_isOverfull_1 : decode cX3_isOverfull 1 = .ok (.getfield 44, 3) := by decide +kernel
theorem dX3_isOverfull_4 : decode cX3_isOverfull 4 = .ok (.ireturn, 1) := by decide +kernel
theorem dX3_isRow_0 : decode cX3_isRow 0 = .ok (.iload_n 1, 1) := by decide +kernel
theorem dX3_isRow_1 : decode cX3_isRow 1 = .ok (.ifCond .lt 15, 3) := by decide +kernel
theorem dX3_isRow_4 : decode cX3_isRow 4 = .ok (.iload_n 1, 1) := by decide +kernel
theorem dX3_isRow_5 : decode cX3_isRow 5 = .ok (.aload_n 0, 1) := by decide +kernel
theorem dX3_isRow_6 : decode cX3_isRow 6 = .ok (.getfield 40, 3) := by decide +kernel
theorem dX3_isRow_9 : decode cX3_isRow 9 = .ok (.if_icmp .ge 7, 3) := by decide +kernel
theorem dX3_isRow_12 : decode cX3_isRow 12 = .ok (.iconst 1, 1) := by decide +kernel
theorem dX3_isRow_13 : decode cX3_isRow 13 = .ok (.goto 4, 3) := by decide +kernel
theorem dX3_isRow_16 : decode cX3_isRow 16 = .ok (.iconst 0, 1) := by decide +kernel
theorem dX3_isRow_17 : decode cX3_isRow 17 = .ok (.ireturn, 1) := by decide +kernel
set_option maxRecDepth 20000 in
theorem ggX3_rowOf_X3_slotOf : GoodIn wsX3_rowOf wsX3_slotOf := goodIn_r _ [6, 7, 1, 8, 9, 10, 11, 12, 13, 14, 15, 16, 17, 18, 19, 20, 21, 22] (by decide +kernel) (by decide +kernel)
set_option maxRecDepth 20000 in
theorem gX3_rowOf_X3_slotOf : GoodIn wsX3_rowOf (wsV RX3 57 RX3 yX3_slotOf wsX3_slotOf) := goodIn_app (goodIn_of _ (by decide +kernel)) ggX3_rowOf_X3_slotOf
theorem dX3_rowOf_0 : decode cX3_rowOf 0 = .ok (.aload_n 0, 1) := by decide +kernel
theorem dX3_rowOf_1 : decode cX3_rowOf 1 = .ok (.getfield 33, 3) := by decide +kernel
theorem dX3_rowOf_4 : decode cX3_rowOf 4 = .ok (.aload_n 0, 1) := by decide +kernel
theorem dX3_rowOf_5 : decode cX3_rowOf 5 = .ok (.iload_n 1, 1) := by decide +kernel
theorem dX3_rowOf_6 : decode cX3_rowOf 6 = .ok (.iload_n 2, 1) := by decide +kernel
theorem dX3_rowOf_7 : decode cX3_rowOf 7 = .ok (.iload_n 3, 1) := by decide +kernel
theorem dX3_rowOf_8 : decode cX3_rowOf 8 = .ok (.invokevirtual 57, 3) := by decide +kernel
theorem dX3_rowOf_11 : decode cX3_rowOf 11 = .ok (.iaload, 1) := by decide +kernel
theorem dX3_rowOf_12 : decode cX3_rowOf 12 = .ok (.ireturn, 1) := by decide +kernel
set_option maxRecDepth 20000 in
theorem ggX3_addNew_X3_slotOf : GoodIn wsX3_addNew wsX3_slotOf := goodIn_r _ [15, 16, 1, 4, 5, 6, 17, 18, 19, 20, 21, 22, 23, 24, 25, 26, 27, 28] (by decide +kernel) (by decide +kernel)
set_option maxRecDepth 20000 in
theorem gX3_addNew_X3_slotOf : GoodIn wsX3_addNew (wsV RX3 57 RX3 yX3_slotOf wsX3_slotOf) := goodIn_app (goodIn_of _ (by decide +kernel)) ggX3_addNew_X3_slotOf
theorem dX3_addNew_0 : decode cX3_addNew 0 = .ok (.aload_n 0, 1) := by decide +kernel
theorem dX3_addNew_1 : decode cX3_addNew 1 = .ok (.iload_n 1, 1) := by decide +kernel
theorem dX3_addNew_2 : decode cX3_addNew 2 = .ok (.iload_n 2, 1) := by decide +kernel
theorem dX3_addNew_3 : decode cX3_addNew 3 = .ok (.iload_n 3, 1) := by decide +kernel
theorem dX3_addNew_4 : decode cX3_addNew 4 = .ok (.invokevirtual 57, 3) := by decide +kernel
theorem dX3_addNew_7 : decode cX3_addNew 7 = .ok (.istore 8, 2) := by decide +kernel
theorem dX3_addNew_9 : decode cX3_addNew 9 = .ok (.aload_n 0, 1) := by decide +kernel
theorem dX3_addNew_10 : decode cX3_addNew 10 = .ok (.getfield 33, 3) := by decide +kernel
theorem dX3_addNew_13 : decode cX3_addNew 13 = .ok (.iload 8, 2) := by decide +kernel
theorem dX3_addNew_15 : decode cX3_addNew 15 = .ok (.iaload, 1) := by decide +kernel
theorem dX3_addNew_16 : decode cX3_addNew 16 = .ok (.iconst (-1), 1) := by decide +kernel
theorem dX3_addNew_17 : decode cX3_addNew 17 = .ok (.if_icmp .eq 4, 3) := by decide +kernel
theorem dX3_addNew_20 : decode cX3_addNew 20 = .ok (.return_, 1) := by decide +kernel
theorem dX3_addNew_21 : decode cX3_addNew 21 = .ok (.aload_n 0, 1) := by decide +kernel
theorem dX3_addNew_22 : decode cX3_addNew 22 = .ok (.getfield 40, 3) := by decide +kernel
theorem dX3_addNew_25 : decode cX3_addNew 25 = .ok (.sipush 600, 3) := by decide +kernel
theorem dX3_addNew_28 : decode cX3_addNew 28 = .ok (.if_icmp .lt 9, 3) := by decide +kernel
theorem dX3_addNew_31 : decode cX3_addNew 31 = .ok (.aload_n 0, 1) := by decide +kernel
theorem dX3_addNew_32 : decode cX3_addNew 32 = .ok (.iconst 1, 1) := by decide +kernel
theorem dX3_addNew_33 : decode cX3_addNew 33 = .ok (.putfield 44, 3) := by decide +kernel
theorem dX3_addNew_36 : decode cX3_addNew 36 = .ok (.return_, 1) := by decide +kernel
theorem dX3_addNew_37 : decode cX3_addNew 37 = .ok (.aload_n 0, 1) := by decide +kernel
theorem dX3_addNew_38 : decode cX3_addNew 38 = .ok (.getfield 33, 3) := by decide +kernel
theorem dX3_addNew_41 : decode cX3_addNew 41 = .ok (.iload 8, 2) := by decide +kernel
theorem dX3_addNew_43 : decode cX3_addNew 43 = .ok (.aload_n 0, 1) := by decide +kernel
theorem dX3_addNew_44 : decode cX3_addNew 44 = .ok (.getfield 40, 3) := by decide +kernel
theorem dX3_addNew_47 : decode cX3_addNew 47 = .ok (.iastore, 1) := by decide +kernel
theorem dX3_addNew_48 : decode cX3_addNew 48 = .ok (.aload_n 0, 1) := by decide +kernel
theorem dX3_addNew_49 : decode cX3_addNew 49 = .ok (.getfield 9, 3) := by decide +kernel
theorem dX3_addNew_52 : decode cX3_addNew 52 = .ok (.aload_n 0, 1) := by decide +kernel
theorem dX3_addNew_53 : decode cX3_addNew 53 = .ok (.getfield 40, 3) := by decide +kernel
theorem dX3_addNew_56 : decode cX3_addNew 56 = .ok (.iload_n 1, 1) := by decide +kernel
theorem dX3_addNew_57 : decode cX3_addNew 57 = .ok (.iastore, 1) := by decide +kernel
theorem dX3_addNew_58 : decode cX3_addNew 58 = .ok (.aload_n 0, 1) := by decide +kernel
theorem dX3_addNew_59 : decode cX3_addNew 59 = .ok (.getfield 15, 3) := by decide +kernel
theorem dX3_addNew_62 : decode cX3_addNew 62 = .ok (.aload_n 0, 1) := by decide +kernel
theorem dX3_addNew_63 : decode cX3_addNew 63 = .ok (.getfield 40, 3) := by decide +kernel
theorem dX3_addNew_66 : decode cX3_addNew 66 = .ok (.iload_n 2, 1) := by decide +kernel
theorem dX3_addNew_67 : decode cX3_addNew 67 = .ok (.iastore, 1) := by decide +kernel
theorem dX3_addNew_68 : decode cX3_addNew 68 = .ok (.aload_n 0, 1) := by decide +kernel
theorem dX3_addNew_69 : decode cX3_addNew 69 = .ok (.getfield 18, 3) := by decide +kernel
theorem dX3_addNew_72 : decode cX3_addNew 72 = .ok (.aload_n 0, 1) := by decide +kernel
theorem dX3_addNew_73 : decode cX3_addNew 73 = .ok (.getfield 40, 3) := by decide +kernel
theorem dX3_addNew_76 : decode cX3_addNew 76 = .ok (.iload_n 3, 1) := by decide +kernel
theorem dX3_addNew_77 : decode cX3_addNew 77 = .ok (.iastore, 1) := by decide +kernel
theorem dX3_addNew_78 : decode cX3_addNew 78 = .ok (.aload_n 0, 1) := by decide +kernel
theorem dX3_addNew_79 : decode cX3_addNew 79 = .ok (.getfield 21, 3) := by decide +kernel
theorem dX3_addNew_82 : decode cX3_addNew 82 = .ok (.aload_n 0, 1) := by decide +kernel
theorem dX3_addNew_83 : decode cX3_addNew 83 = .ok (.getfield 40, 3) := by decide +kernel
theorem dX3_addNew_86 : decode cX3_addNew 86 = .ok (.iload 4, 2) := by decide +kernel
theorem dX3_addNew_88 : decode cX3_addNew 88 = .ok (.iastore, 1) := by decide +kernel
theorem dX3_addNew_89 : decode cX3_addNew 89 = .ok (.aload_n 0, 1) := by decide +kernel
theorem dX3_addNew_90 : decode cX3_addNew 90 = .ok (.getfield 24, 3) := by decide +kernel
theorem dX3_addNew_93 : decode cX3_addNew 93 = .ok (.aload_n 0, 1) := by decide +kernel
theorem dX3_addNew_94 : decode cX3_addNew 94 = .ok (.getfield 40, 3) := by decide +kernel
theorem dX3_addNew_97 : decode cX3_addNew 97 = .ok (.iload 5, 2) := by decide +kernel
theorem dX3_addNew_99 : decode cX3_addNew 99 = .ok (.iastore, 1) := by decide +kernel
theorem dX3_addNew_100 : decode cX3_addNew 100 = .ok (.aload_n 0, 1) := by decide +kernel
theorem dX3_addNew_101 : decode cX3_addNew 101 = .ok (.getfield 27, 3) := by decide +kernel
theorem dX3_addNew_104 : decode cX3_addNew 104 = .ok (.aload_n 0, 1) := by decide +kernel
theorem dX3_addNew_105 : decode cX3_addNew 105 = .ok (.getfield 40, 3) := by decide +kernel
theorem dX3_addNew_108 : decode cX3_addNew 108 = .ok (.iload 6, 2) := by decide +kernel
theorem dX3_addNew_110 : decode cX3_addNew 110 = .ok (.iastore, 1) := by decide +kernel
theorem dX3_addNew_111 : decode cX3_addNew 111 = .ok (.aload_n 0, 1) := by decide +kernel
theorem dX3_addNew_112 : decode cX3_addNew 112 = .ok (.getfield 30, 3) := by decide +kernel
theorem dX3_addNew_115 : decode cX3_addNew 115 = .ok (.aload_n 0, 1) := by decide +kernel
theorem dX3_addNew_116 : decode cX3_addNew 116 = .ok (.getfield 40, 3) := by decide +kernel
theorem dX3_addNew_119 : decode cX3_addNew 119 = .ok (.iload 7, 2) := by decide +kernel
theorem dX3_addNew_121 : decode cX3_addNew 121 = .ok (.iastore, 1) := by decide +kernel
theorem dX3_addNew_122 : decode cX3_addNew 122 = .ok (.aload_n 0, 1) := by decide +kernel
theorem dX3_addNew_123 : decode cX3_addNew 123 = .ok (.dup, 1) := by decide +kernel
theorem dX3_addNew_124 : decode cX3_addNew 124 = .ok (.getfield 40, 3) := by decide +kernel
theorem dX3_addNew_127 : decode cX3_addNew 127 = .ok (.iconst 1, 1) := by decide +kernel
theorem dX3_addNew_128 : decode cX3_addNew 128 = .ok (.iadd, 1) := by decide +kernel
theorem dX3_addNew_129 : decode cX3_addNew 129 = .ok (.putfield 40, 3) := by decide +kernel
theorem dX3_addNew_132 : decode cX3_addNew 132 = .ok (.return_, 1) := by decide +kernel
theorem dX3_slotOf_0 : decode cX3_slotOf 0 = .ok (.iload_n 1, 1) := by decide +kernel
theorem dX3_slotOf_1 : decode cX3_slotOf 1 = .ok (.sipush 613, 3) := by decide +kernel
theorem dX3_slotOf_4 : decode cX3_slotOf 4 = .ok (.imul, 1) := by decide +kernel
theorem dX3_slotOf_5 : decode cX3_slotOf 5 = .ok (.iload_n 2, 1) := by decide +kernel
theorem dX3_slotOf_6 : decode cX3_slotOf 6 = .ok (.iadd, 1) := by decide +kernel
theorem dX3_slotOf_7 : decode cX3_slotOf 7 = .ok (.sipush 601, 3) := by decide +kernel
theorem dX3_slotOf_10 : decode cX3_slotOf 10 = .ok (.imul, 1) := by decide +kernel
theorem dX3_slotOf_11 : decode cX3_slotOf 11 = .ok (.iload_n 3, 1) := by decide +kernel
theorem dX3_slotOf_12 : decode cX3_slotOf 12 = .ok (.iadd, 1) := by decide +kernel
theorem dX3_slotOf_13 : decode cX3_slotOf 13 = .ok (.ldc 61, 2) := by decide +kernel
theorem dX3_slotOf_15 : decode cX3_slotOf 15 = .ok (.imul, 1) := by decide +kernel
theorem dX3_slotOf_16 : decode cX3_slotOf 16 = .ok (.bipush 22, 2) := by decide +kernel
theorem dX3_slotOf_18 : decode cX3_slotOf 18 = .ok (.iushr, 1) := by decide +kernel
theorem dX3_slotOf_19 : decode cX3_slotOf 19 = .ok (.istore 4, 2) := by decide +kernel
theorem dX3_slotOf_21 : decode cX3_slotOf 21 = .ok (.iconst 0, 1) := by decide +kernel
theorem dX3_slotOf_22 : decode cX3_slotOf 22 = .ok (.istore 5, 2) := by decide +kernel
theorem dX3_slotOf_24 : decode cX3_slotOf 24 = .ok (.iload 5, 2) := by decide +kernel
theorem dX3_slotOf_26 : decode cX3_slotOf 26 = .ok (.sipush 1024, 3) := by decide +kernel
theorem dX3_slotOf_29 : decode cX3_slotOf 29 = .ok (.if_icmp .ge 70, 3) := by decide +kernel
theorem dX3_slotOf_32 : decode cX3_slotOf 32 = .ok (.aload_n 0, 1) := by decide +kernel
theorem dX3_slotOf_33 : decode cX3_slotOf 33 = .ok (.getfield 33, 3) := by decide +kernel
theorem dX3_slotOf_36 : decode cX3_slotOf 36 = .ok (.iload 4, 2) := by decide +kernel
theorem dX3_slotOf_38 : decode cX3_slotOf 38 = .ok (.iaload, 1) := by decide +kernel
theorem dX3_slotOf_39 : decode cX3_slotOf 39 = .ok (.istore 6, 2) := by decide +kernel
theorem dX3_slotOf_41 : decode cX3_slotOf 41 = .ok (.iload 6, 2) := by decide +kernel
theorem dX3_slotOf_43 : decode cX3_slotOf 43 = .ok (.iconst (-1), 1) := by decide +kernel
theorem dX3_slotOf_44 : decode cX3_slotOf 44 = .ok (.if_icmp .eq 36, 3) := by decide +kernel
theorem dX3_slotOf_47 : decode cX3_slotOf 47 = .ok (.aload_n 0, 1) := by decide +kernel
theorem dX3_slotOf_48 : decode cX3_slotOf 48 = .ok (.getfield 9, 3) := by decide +kernel
theorem dX3_slotOf_51 : decode cX3_slotOf 51 = .ok (.iload 6, 2) := by decide +kernel
theorem dX3_slotOf_53 : decode cX3_slotOf 53 = .ok (.iaload, 1) := by decide +kernel
theorem dX3_slotOf_54 : decode cX3_slotOf 54 = .ok (.iload_n 1, 1) := by decide +kernel
theorem dX3_slotOf_55 : decode cX3_slotOf 55 = .ok (.if_icmp .ne 28, 3) := by decide +kernel
theorem dX3_slotOf_58 : decode cX3_slotOf 58 = .ok (.aload_n 0, 1) := by decide +kernel
theorem dX3_slotOf_59 : decode cX3_slotOf 59 = .ok (.getfield 15, 3) := by decide +kernel
theorem dX3_slotOf_62 : decode cX3_slotOf 62 = .ok (.iload 6, 2) := by decide +kernel
theorem dX3_slotOf_64 : decode cX3_slotOf 64 = .ok (.iaload, 1) := by decide +kernel
theorem dX3_slotOf_65 : decode cX3_slotOf 65 = .ok (.iload_n 2, 1) := by decide +kernel
theorem dX3_slotOf_66 : decode cX3_slotOf 66 = .ok (.if_icmp .ne 17, 3) := by decide +kernel
theorem dX3_slotOf_69 : decode cX3_slotOf 69 = .ok (.aload_n 0, 1) := by decide +kernel
theorem dX3_slotOf_70 : decode cX3_slotOf 70 = .ok (.getfield 18, 3) := by decide +kernel
theorem dX3_slotOf_73 : decode cX3_slotOf 73 = .ok (.iload 6, 2) := by decide +kernel
theorem dX3_slotOf_75 : decode cX3_slotOf 75 = .ok (.iaload, 1) := by decide +kernel
theorem dX3_slotOf_76 : decode cX3_slotOf 76 = .ok (.iload_n 3, 1) := by decide +kernel
theorem dX3_slotOf_77 : decode cX3_slotOf 77 = .ok (.if_icmp .ne 6, 3) := by decide +kernel
theorem dX3_slotOf_80 : decode cX3_slotOf 80 = .ok (.iload 4, 2) := by decide +kernel
theorem dX3_slotOf_82 : decode cX3_slotOf 82 = .ok (.ireturn, 1) := by decide +kernel
theorem dX3_slotOf_83 : decode cX3_slotOf 83 = .ok (.iload 4, 2) := by decide +kernel
theorem dX3_slotOf_85 : decode cX3_slotOf 85 = .ok (.iconst 1, 1) := by decide +kernel
theorem dX3_slotOf_86 : decode cX3_slotOf 86 = .ok (.iadd, 1) := by decide +kernel
theorem dX3_slotOf_87 : decode cX3_slotOf 87 = .ok (.sipush 1023, 3) := by decide +kernel
theorem dX3_slotOf_90 : decode cX3_slotOf 90 = .ok (.iand, 1) := by decide +kernel
theorem dX3_slotOf_91 : decode cX3_slotOf 91 = .ok (.istore 4, 2) := by decide +kernel
theorem dX3_slotOf_93 : decode cX3_slotOf 93 = .ok (.iinc 5 1, 3) := by decide +kernel
theorem dX3_slotOf_96 : decode cX3_slotOf 96 = .ok (.goto (-72), 3) := by decide +kernel
theorem dX3_slotOf_99 : decode cX3_slotOf 99 = .ok (.iload 4, 2) := by decide +kernel
theorem dX3_slotOf_101 : decode cX3_slotOf 101 = .ok (.ireturn, 1) := by decide +kernel
theorem dX3_part_0 : decode cX3_part 0 = .ok (.iload_n 2, 1) := by decide +kernel
theorem dX3_part_1 : decode cX3_part 1 = .ok (.tableswitch 81 0 5 #[39, 46, 53, 60, 67, 74], 39) := by decide +kernel
theorem dX3_part_40 : decode cX3_part 40 = .ok (.aload_n 0, 1) := by decide +kernel
theorem dX3_part_41 : decode cX3_part 41 = .ok (.getfield 9, 3) := by decide +kernel
theorem dX3_part_44 : decode cX3_part 44 = .ok (.iload_n 1, 1) := by decide +kernel
theorem dX3_part_45 : decode cX3_part 45 = .ok (.iaload, 1) := by decide +kernel
theorem dX3_part_46 : decode cX3_part 46 = .ok (.ireturn, 1) := by decide +kernel
theorem dX3_part_47 : decode cX3_part 47 = .ok (.aload_n 0, 1) := by decide +kernel
theorem dX3_part_48 : decode cX3_part 48 = .ok (.getfield 15, 3) := by decide +kernel
theorem dX3_part_51 : decode cX3_part 51 = .ok (.iload_n 1, 1) := by decide +kernel
theorem dX3_part_52 : decode cX3_part 52 = .ok (.iaload, 1) := by decide +kernel
theorem dX3_part_53 : decode cX3_part 53 = .ok (.ireturn, 1) := by decide +kernel
theorem dX3_part_54 : decode cX3_part 54 = .ok (.aload_n 0, 1) := by decide +kernel
theorem dX3_part_55 : decode cX3_part 55 = .ok (.getfield 18, 3) := by decide +kernel
theorem dX3_part_58 : decode cX3_part 58 = .ok (.iload_n 1, 1) := by decide +kernel
theorem dX3_part_59 : decode cX3_part 59 = .ok (.iaload, 1) := by decide +kernel
theorem dX3_part_60 : decode cX3_part 60 = .ok (.ireturn, 1) := by decide +kernel
theorem dX3_part_61 : decode cX3_part 61 = .ok (.aload_n 0, 1) := by decide +kernel
theorem dX3_part_62 : decode cX3_part 62 = .ok (.getfield 21, 3) := by decide +kernel
theorem dX3_part_65 : decode cX3_part 65 = .ok (.iload_n 1, 1) := by decide +kernel
theorem dX3_part_66 : decode cX3_part 66 = .ok (.iaload, 1) := by decide +kernel
theorem dX3_part_67 : decode cX3_part 67 = .ok (.ireturn, 1) := by decide +kernel
theorem dX3_part_68 : decode cX3_part 68 = .ok (.aload_n 0, 1) := by decide +kernel
theorem dX3_part_69 : decode cX3_part 69 = .ok (.getfield 24, 3) := by decide +kernel
theorem dX3_part_72 : decode cX3_part 72 = .ok (.iload_n 1, 1) := by decide +kernel
theorem dX3_part_73 : decode cX3_part 73 = .ok (.iaload, 1) := by decide +kernel
theorem dX3_part_74 : decode cX3_part 74 = .ok (.ireturn, 1) := by decide +kernel
theorem dX3_part_75 : decode cX3_part 75 = .ok (.aload_n 0, 1) := by decide +kernel
theorem dX3_part_76 : decode cX3_part 76 = .ok (.getfield 27, 3) := by decide +kernel
theorem dX3_part_79 : decode cX3_part 79 = .ok (.iload_n 1, 1) := by decide +kernel
theorem dX3_part_80 : decode cX3_part 80 = .ok (.iaload, 1) := by decide +kernel
theorem dX3_part_81 : decode cX3_part 81 = .ok (.ireturn, 1) := by decide +kernel
theorem dX3_part_82 : decode cX3_part 82 = .ok (.aload_n 0, 1) := by decide +kernel
theorem dX3_part_83 : decode cX3_part 83 = .ok (.getfield 30, 3) := by decide +kernel
theorem dX3_part_86 : decode cX3_part 86 = .ok (.iload_n 1, 1) := by decide +kernel
theorem dX3_part_87 : decode cX3_part 87 = .ok (.iaload, 1) := by decide +kernel
theorem dX3_part_88 : decode cX3_part 88 = .ok (.ireturn, 1) := by decide +kernel
set_option maxRecDepth 20000 in
theorem ggX3_restSize_X3_markRest : GoodIn wsX3_restSize wsX3_markRest := goodIn_r _ [6, 1, 7, 8, 9, 10, 11, 5, 12, 13, 14, 15, 16, 17, 18, 19, 20, 21, 22, 23, 24] (by decide +kernel) (by decide +kernel)
set_option maxRecDepth 20000 in
theorem gX3_restSize_X3_markRest : GoodIn wsX3_restSize (wsV RX3 62 RX3 yX3_markRest wsX3_markRest) := goodIn_app (goodIn_of _ (by decide +kernel)) ggX3_restSize_X3_markRest
theorem dX3_restSize_0 : decode cX3_restSize 0 = .ok (.aload_n 0, 1) := by decide +kernel
theorem dX3_restSize_1 : decode cX3_restSize 1 = .ok (.iload_n 1, 1) := by decide +kernel
theorem dX3_restSize_2 : decode cX3_restSize 2 = .ok (.invokevirtual 62, 3) := by decide +kernel
theorem dX3_restSize_5 : decode cX3_restSize 5 = .ok (.iconst 0, 1) := by decide +kernel
theorem dX3_restSize_6 : decode cX3_restSize 6 = .ok (.istore_n 2, 1) := by decide +kernel
theorem dX3_restSize_7 : decode cX3_restSize 7 = .ok (.iconst 0, 1) := by decide +kernel
theorem dX3_restSize_8 : decode cX3_restSize 8 = .ok (.istore_n 3, 1) := by decide +kernel
theorem dX3_restSize_9 : decode cX3_restSize 9 = .ok (.iload_n 3, 1) := by decide +kernel
theorem dX3_restSize_10 : decode cX3_restSize 10 = .ok (.iload_n 1, 1) := by decide +kernel
theorem dX3_restSize_11 : decode cX3_restSize 11 = .ok (.if_icmp .gt 21, 3) := by decide +kernel
theorem dX3_restSize_14 : decode cX3_restSize 14 = .ok (.aload_n 0, 1) := by decide +kernel
theorem dX3_restSize_15 : decode cX3_restSize 15 = .ok (.getfield 36, 3) := by decide +kernel
theorem dX3_restSize_18 : decode cX3_restSize 18 = .ok (.iload_n 3, 1) := by decide +kernel
theorem dX3_restSize_19 : decode cX3_restSize 19 = .ok (.baload, 1) := by decide +kernel
theorem dX3_restSize_20 : decode cX3_restSize 20 = .ok (.ifCond .eq 6, 3) := by decide +kernel
theorem dX3_restSize_23 : decode cX3_restSize 23 = .ok (.iinc 2 1, 3) := by decide +kernel
theorem dX3_restSize_26 : decode cX3_restSize 26 = .ok (.iinc 3 1, 3) := by decide +kernel
theorem dX3_restSize_29 : decode cX3_restSize 29 = .ok (.goto (-20), 3) := by decide +kernel
theorem dX3_restSize_32 : decode cX3_restSize 32 = .ok (.iload_n 2, 1) := by decide +kernel
theorem dX3_restSize_33 : decode cX3_restSize 33 = .ok (.ireturn, 1) := by decide +kernel
set_option maxRecDepth 20000 in
theorem ggX3_restMember_X3_markRest : GoodIn wsX3_restMember wsX3_markRest := goodIn_r _ [6, 1, 7, 8, 9, 10, 11, 5, 12, 13, 14, 15, 16, 17, 18, 19, 20, 21, 22, 23, 24] (by decide +kernel) (by decide +kernel)
set_option maxRecDepth 20000 in
theorem gX3_restMember_X3_markRest : GoodIn wsX3_restMember (wsV RX3 62 RX3 yX3_markRest wsX3_markRest) := goodIn_app (goodIn_of _ (by decide +kernel)) ggX3_restMember_X3_markRest
theorem dX3_restMember_0 : decode cX3_restMember 0 = .ok (.aload_n 0, 1) := by decide +kernel
theorem dX3_restMember_1 : decode cX3_restMember 1 = .ok (.iload_n 1, 1) := by decide +kernel
theorem dX3_restMember_2 : decode cX3_restMember 2 = .ok (.invokevirtual 62, 3) := by decide +kernel
theorem dX3_restMember_5 : decode cX3_restMember 5 = .ok (.iconst 0, 1) := by decide +kernel
theorem dX3_restMember_6 : decode cX3_restMember 6 = .ok (.istore_n 3, 1) := by decide +kernel
theorem dX3_restMember_7 : decode cX3_restMember 7 = .ok (.iconst 0, 1) := by decide +kernel
theorem dX3_restMember_8 : decode cX3_restMember 8 = .ok (.istore 4, 2) := by decide +kernel
theorem dX3_restMember_10 : decode cX3_restMember 10 = .ok (.iload 4, 2) := by decide +kernel
theorem dX3_restMember_12 : decode cX3_restMember 12 = .ok (.iload_n 1, 1) := by decide +kernel
theorem dX3_restMember_13 : decode cX3_restMember 13 = .ok (.if_icmp .gt 30, 3) := by decide +kernel
theorem dX3_restMember_16 : decode cX3_restMember 16 = .ok (.aload_n 0, 1) := by decide +kernel
theorem dX3_restMember_17 : decode cX3_restMember 17 = .ok (.getfield 36, 3) := by decide +kernel
theorem dX3_restMember_20 : decode cX3_restMember 20 = .ok (.iload 4, 2) := by decide +kernel
theorem dX3_restMember_22 : decode cX3_restMember 22 = .ok (.baload, 1) := by decide +kernel
theorem dX3_restMember_23 : decode cX3_restMember 23 = .ok (.ifCond .eq 14, 3) := by decide +kernel
theorem dX3_restMember_26 : decode cX3_restMember 26 = .ok (.iload_n 3, 1) := by decide +kernel
theorem dX3_restMember_27 : decode cX3_restMember 27 = .ok (.iload_n 2, 1) := by decide +kernel
theorem dX3_restMember_28 : decode cX3_restMember 28 = .ok (.if_icmp .ne 6, 3) := by decide +kernel
theorem dX3_restMember_31 : decode cX3_restMember 31 = .ok (.iload 4, 2) := by decide +kernel
theorem dX3_restMember_33 : decode cX3_restMember 33 = .ok (.ireturn, 1) := by decide +kernel
theorem dX3_restMember_34 : decode cX3_restMember 34 = .ok (.iinc 3 1, 3) := by decide +kernel
theorem dX3_restMember_37 : decode cX3_restMember 37 = .ok (.iinc 4 1, 3) := by decide +kernel
theorem dX3_restMember_40 : decode cX3_restMember 40 = .ok (.goto (-30), 3) := by decide +kernel
theorem dX3_restMember_43 : decode cX3_restMember 43 = .ok (.iconst (-1), 1) := by decide +kernel
theorem dX3_restMember_44 : decode cX3_restMember 44 = .ok (.ireturn, 1) := by decide +kernel
set_option maxRecDepth 20000 in
theorem ggX3_markRest_X3_markIfRow : GoodIn wsX3_markRest wsX3_markIfRow := goodIn_r _ [8, 1, 9, 10, 11, 12, 13, 14, 15, 16, 17, 18, 19, 20] (by decide +kernel) (by decide +kernel)
set_option maxRecDepth 20000 in
theorem gX3_markRest_X3_markIfRow : GoodIn wsX3_markRest (wsV RX3 66 RX3 yX3_markIfRow wsX3_markIfRow) := goodIn_app (goodIn_of _ (by decide +kernel)) ggX3_markRest_X3_markIfRow
theorem dX3_markRest_0 : decode cX3_markRest 0 = .ok (.iconst 0, 1) := by decide +kernel
theorem dX3_markRest_1 : decode cX3_markRest 1 = .ok (.istore_n 2, 1) := by decide +kernel
theorem dX3_markRest_2 : decode cX3_markRest 2 = .ok (.iload_n 2, 1) := by decide +kernel
theorem dX3_markRest_3 : decode cX3_markRest 3 = .ok (.iload_n 1, 1) := by decide +kernel
theorem dX3_markRest_4 : decode cX3_markRest 4 = .ok (.if_icmp .gt 25, 3) := by decide +kernel
theorem dX3_markRest_7 : decode cX3_markRest 7 = .ok (.aload_n 0, 1) := by decide +kernel
theorem dX3_markRest_8 : decode cX3_markRest 8 = .ok (.getfield 36, 3) := by decide +kernel
theorem dX3_markRest_11 : decode cX3_markRest 11 = .ok (.iload_n 2, 1) := by decide +kernel
theorem dX3_markRest_12 : decode cX3_markRest 12 = .ok (.iload_n 2, 1) := by decide +kernel
theorem dX3_markRest_13 : decode cX3_markRest 13 = .ok (.iload_n 1, 1) := by decide +kernel
theorem dX3_markRest_14 : decode cX3_markRest 14 = .ok (.if_icmp .ne 7, 3) := by decide +kernel
theorem dX3_markRest_17 : decode cX3_markRest 17 = .ok (.iconst 1, 1) := by decide +kernel
theorem dX3_markRest_18 : decode cX3_markRest 18 = .ok (.goto 4, 3) := by decide +kernel
theorem dX3_markRest_21 : decode cX3_markRest 21 = .ok (.iconst 0, 1) := by decide +kernel
theorem dX3_markRest_22 : decode cX3_markRest 22 = .ok (.bastore, 1) := by decide +kernel
theorem dX3_markRest_23 : decode cX3_markRest 23 = .ok (.iinc 2 1, 3) := by decide +kernel
theorem dX3_markRest_26 : decode cX3_markRest 26 = .ok (.goto (-24), 3) := by decide +kernel
theorem dX3_markRest_29 : decode cX3_markRest 29 = .ok (.iload_n 1, 1) := by decide +kernel
theorem dX3_markRest_30 : decode cX3_markRest 30 = .ok (.istore_n 2, 1) := by decide +kernel
theorem dX3_markRest_31 : decode cX3_markRest 31 = .ok (.iload_n 2, 1) := by decide +kernel
theorem dX3_markRest_32 : decode cX3_markRest 32 = .ok (.ifCond .lt 38, 3) := by decide +kernel
theorem dX3_markRest_35 : decode cX3_markRest 35 = .ok (.aload_n 0, 1) := by decide +kernel
theorem dX3_markRest_36 : decode cX3_markRest 36 = .ok (.getfield 36, 3) := by decide +kernel
theorem dX3_markRest_39 : decode cX3_markRest 39 = .ok (.iload_n 2, 1) := by decide +kernel
theorem dX3_markRest_40 : decode cX3_markRest 40 = .ok (.baload, 1) := by decide +kernel
theorem dX3_markRest_41 : decode cX3_markRest 41 = .ok (.ifCond .eq 23, 3) := by decide +kernel
theorem dX3_markRest_44 : decode cX3_markRest 44 = .ok (.aload_n 0, 1) := by decide +kernel
theorem dX3_markRest_45 : decode cX3_markRest 45 = .ok (.aload_n 0, 1) := by decide +kernel
theorem dX3_markRest_46 : decode cX3_markRest 46 = .ok (.getfield 24, 3) := by decide +kernel
theorem dX3_markRest_49 : decode cX3_markRest 49 = .ok (.iload_n 2, 1) := by decide +kernel
theorem dX3_markRest_50 : decode cX3_markRest 50 = .ok (.iaload, 1) := by decide +kernel
theorem dX3_markRest_51 : decode cX3_markRest 51 = .ok (.invokevirtual 66, 3) := by decide +kernel
theorem dX3_markRest_54 : decode cX3_markRest 54 = .ok (.aload_n 0, 1) := by decide +kernel
theorem dX3_markRest_55 : decode cX3_markRest 55 = .ok (.aload_n 0, 1) := by decide +kernel
theorem dX3_markRest_56 : decode cX3_markRest 56 = .ok (.getfield 27, 3) := by decide +kernel
theorem dX3_markRest_59 : decode cX3_markRest 59 = .ok (.iload_n 2, 1) := by decide +kernel
theorem dX3_markRest_60 : decode cX3_markRest 60 = .ok (.iaload, 1) := by decide +kernel
theorem dX3_markRest_61 : decode cX3_markRest 61 = .ok (.invokevirtual 66, 3) := by decide +kernel
theorem dX3_markRest_64 : decode cX3_markRest 64 = .ok (.iinc 2 (-1), 3) := by decide +kernel
theorem dX3_markRest_67 : decode cX3_markRest 67 = .ok (.goto (-36), 3) := by decide +kernel
theorem dX3_markRest_70 : decode cX3_markRest 70 = .ok (.return_, 1) := by decide +kernel
theorem dX3_markIfRow_0 : decode cX3_markIfRow 0 = .ok (.iload_n 1, 1) := by decide +kernel
theorem dX3_markIfRow_1 : decode cX3_markIfRow 1 = .ok (.iconst (-1), 1) := by decide +kernel
theorem dX3_markIfRow_2 : decode cX3_markIfRow 2 = .ok (.if_icmp .eq 10, 3) := by decide +kernel
theorem dX3_markIfRow_5 : decode cX3_markIfRow 5 = .ok (.aload_n 0, 1) := by decide +kernel
theorem dX3_markIfRow_6 : decode cX3_markIfRow 6 = .ok (.getfield 36, 3) := by decide +kernel
theorem dX3_markIfRow_9 : decode cX3_markIfRow 9 = .ok (.iload_n 1, 1) := by decide +kernel
theorem dX3_markIfRow_10 : decode cX3_markIfRow 10 = .ok (.iconst 1, 1) := by decide +kernel
theorem dX3_markIfRow_11 : decode cX3_markIfRow 11 = .ok (.bastore, 1) := by decide +kernel
theorem dX3_markIfRow_12 : decode cX3_markIfRow 12 = .ok (.return_, 1) := by decide +kernel
theorem dX3_madeBy_0 : decode cX3_madeBy 0 = .ok (.iconst 0, 1) := by decide +kernel
theorem dX3_madeBy_1 : decode cX3_madeBy 1 = .ok (.istore_n 2, 1) := by decide +kernel
theorem dX3_madeBy_2 : decode cX3_madeBy 2 = .ok (.iconst 0, 1) := by decide +kernel
theorem dX3_madeBy_3 : decode cX3_madeBy 3 = .ok (.istore_n 3, 1) := by decide +kernel
theorem dX3_madeBy_4 : decode cX3_madeBy 4 = .ok (.iload_n 3, 1) := by decide +kernel
theorem dX3_madeBy_5 : decode cX3_madeBy 5 = .ok (.aload_n 0, 1) := by decide +kernel
theorem dX3_madeBy_6 : decode cX3_madeBy 6 = .ok (.getfield 40, 3) := by decide +kernel
theorem dX3_madeBy_9 : decode cX3_madeBy 9 = .ok (.if_icmp .ge 22, 3) := by decide +kernel
theorem dX3_madeBy_12 : decode cX3_madeBy 12 = .ok (.aload_n 0, 1) := by decide +kernel
theorem dX3_madeBy_13 : decode cX3_madeBy 13 = .ok (.getfield 21, 3) := by decide +kernel
theorem dX3_madeBy_16 : decode cX3_madeBy 16 = .ok (.iload_n 3, 1) := by decide +kernel
theorem dX3_madeBy_17 : decode cX3_madeBy 17 = .ok (.iaload, 1) := by decide +kernel
theorem dX3_madeBy_18 : decode cX3_madeBy 18 = .ok (.iload_n 1, 1) := by decide +kernel
theorem dX3_madeBy_19 : decode cX3_madeBy 19 = .ok (.if_icmp .ne 6, 3) := by decide +kernel
theorem dX3_madeBy_22 : decode cX3_madeBy 22 = .ok (.iinc 2 1, 3) := by decide +kernel
theorem dX3_madeBy_25 : decode cX3_madeBy 25 = .ok (.iinc 3 1, 3) := by decide +kernel
theorem dX3_madeBy_28 : decode cX3_madeBy 28 = .ok (.goto (-24), 3) := by decide +kernel
theorem dX3_madeBy_31 : decode cX3_madeBy 31 = .ok (.iload_n 2, 1) := by decide +kernel
theorem dX3_madeBy_32 : decode cX3_madeBy 32 = .ok (.ireturn, 1) := by decide +kernel
theorem dX3_literalSubjects_0 : decode cX3_literalSubjects 0 = .ok (.iconst 0, 1) := by decide +kernel
theorem dX3_literalSubjects_1 : decode cX3_literalSubjects 1 = .ok (.istore_n 1, 1) := by decide +kernel
theorem dX3_literalSubjects_2 : decode cX3_literalSubjects 2 = .ok (.iconst 0, 1) := by decide +kernel
theorem dX3_literalSubjects_3 : decode cX3_literalSubjects 3 = .ok (.istore_n 2, 1) := by decide +kernel
theorem dX3_literalSubjects_4 : decode cX3_literalSubjects 4 = .ok (.iload_n 2, 1) := by decide +kernel
theorem dX3_literalSubjects_5 : decode cX3_literalSubjects 5 = .ok (.aload_n 0, 1) := by decide +kernel
theorem dX3_literalSubjects_6 : decode cX3_literalSubjects 6 = .ok (.getfield 40, 3) := by decide +kernel
theorem dX3_literalSubjects_9 : decode cX3_literalSubjects 9 = .ok (.if_icmp .ge 24, 3) := by decide +kernel
theorem dX3_literalSubjects_12 : decode cX3_literalSubjects 12 = .ok (.aload_n 0, 1) := by decide +kernel
theorem dX3_literalSubjects_13 : decode cX3_literalSubjects 13 = .ok (.getfield 9, 3) := by decide +kernel
theorem dX3_literalSubjects_16 : decode cX3_literalSubjects 16 = .ok (.iload_n 2, 1) := by decide +kernel
theorem dX3_literalSubjects_17 : decode cX3_literalSubjects 17 = .ok (.iaload, 1) := by decide +kernel
theorem dX3_literalSubjects_18 : decode cX3_literalSubjects 18 = .ok (.sipush 300, 3) := by decide +kernel
theorem dX3_literalSubjects_21 : decode cX3_literalSubjects 21 = .ok (.if_icmp .lt 6, 3) := by decide +kernel
theorem dX3_literalSubjects_24 : decode cX3_literalSubjects 24 = .ok (.iinc 1 1, 3) := by decide +kernel
theorem dX3_literalSubjects_27 : decode cX3_literalSubjects 27 = .ok (.iinc 2 1, 3) := by decide +kernel
theorem dX3_literalSubjects_30 : decode cX3_literalSubjects 30 = .ok (.goto (-26), 3) := by decide +kernel
theorem dX3_literalSubjects_33 : decode cX3_literalSubjects 33 = .ok (.iload_n 1, 1) := by decide +kernel
theorem dX3_literalSubjects_34 : decode cX3_literalSubjects 34 = .ok (.ireturn, 1) := by decide +kernel
theorem dX3_membershipsBeyondAxioms_0 : decode cX3_membershipsBeyondAxioms 0 = .ok (.iconst 0, 1) := by decide +kernel
theorem dX3_membershipsBeyondAxioms_1 : decode cX3_membershipsBeyondAxioms 1 = .ok (.istore_n 1, 1) := by decide +kernel
theorem dX3_membershipsBeyondAxioms_2 : decode cX3_membershipsBeyondAxioms 2 = .ok (.iconst 0, 1) := by decide +kernel
theorem dX3_membershipsBeyondAxioms_3 : decode cX3_membershipsBeyondAxioms 3 = .ok (.istore_n 2, 1) := by decide +kernel
theorem dX3_membershipsBeyondAxioms_4 : decode cX3_membershipsBeyondAxioms 4 = .ok (.iload_n 2, 1) := by decide +kernel
theorem dX3_membershipsBeyondAxioms_5 : decode cX3_membershipsBeyondAxioms 5 = .ok (.aload_n 0, 1) := by decide +kernel
theorem dX3_membershipsBeyondAxioms_6 : decode cX3_membershipsBeyondAxioms 6 = .ok (.getfield 40, 3) := by decide +kernel
theorem dX3_membershipsBeyondAxioms_9 : decode cX3_membershipsBeyondAxioms 9 = .ok (.if_icmp .ge 39, 3) := by decide +kernel
theorem dX3_membershipsBeyondAxioms_12 : decode cX3_membershipsBeyondAxioms 12 = .ok (.aload_n 0, 1) := by decide +kernel
theorem dX3_membershipsBeyondAxioms_13 : decode cX3_membershipsBeyondAxioms 13 = .ok (.getfield 15, 3) := by decide +kernel
theorem dX3_membershipsBeyondAxioms_16 : decode cX3_membershipsBeyondAxioms 16 = .ok (.iload_n 2, 1) := by decide +kernel
theorem dX3_membershipsBeyondAxioms_17 : decode cX3_membershipsBeyondAxioms 17 = .ok (.iaload, 1) := by decide +kernel
theorem dX3_membershipsBeyondAxioms_18 : decode cX3_membershipsBeyondAxioms 18 = .ok (.bipush 20, 2) := by decide +kernel
theorem dX3_membershipsBeyondAxioms_20 : decode cX3_membershipsBeyondAxioms 20 = .ok (.aload_n 0, 1) := by decide +kernel
theorem dX3_membershipsBeyondAxioms_21 : decode cX3_membershipsBeyondAxioms 21 = .ok (.getfield 48, 3) := by decide +kernel
theorem dX3_membershipsBeyondAxioms_24 : decode cX3_membershipsBeyondAxioms 24 = .ok (.iadd, 1) := by decide +kernel
theorem dX3_membershipsBeyondAxioms_25 : decode cX3_membershipsBeyondAxioms 25 = .ok (.if_icmp .lt 17, 3) := by decide +kernel
theorem dX3_membershipsBeyondAxioms_28 : decode cX3_membershipsBeyondAxioms 28 = .ok (.aload_n 0, 1) := by decide +kernel
theorem dX3_membershipsBeyondAxioms_29 : decode cX3_membershipsBeyondAxioms 29 = .ok (.getfield 15, 3) := by decide +kernel
theorem dX3_membershipsBeyondAxioms_32 : decode cX3_membershipsBeyondAxioms 32 = .ok (.iload_n 2, 1) := by decide +kernel
theorem dX3_membershipsBeyondAxioms_33 : decode cX3_membershipsBeyondAxioms 33 = .ok (.iaload, 1) := by decide +kernel
theorem dX3_membershipsBeyondAxioms_34 : decode cX3_membershipsBeyondAxioms 34 = .ok (.bipush 29, 2) := by decide +kernel
theorem dX3_membershipsBeyondAxioms_36 : decode cX3_membershipsBeyondAxioms 36 = .ok (.if_icmp .ge 6, 3) := by decide +kernel
theorem dX3_membershipsBeyondAxioms_39 : decode cX3_membershipsBeyondAxioms 39 = .ok (.iinc 1 1, 3) := by decide +kernel
theorem dX3_membershipsBeyondAxioms_42 : decode cX3_membershipsBeyondAxioms 42 = .ok (.iinc 2 1, 3) := by decide +kernel
theorem dX3_membershipsBeyondAxioms_45 : decode cX3_membershipsBeyondAxioms 45 = .ok (.goto (-41), 3) := by decide +kernel
theorem dX3_membershipsBeyondAxioms_48 : decode cX3_membershipsBeyondAxioms 48 = .ok (.iload_n 1, 1) := by decide +kernel
theorem dX3_membershipsBeyondAxioms_49 : decode cX3_membershipsBeyondAxioms 49 = .ok (.ireturn, 1) := by decide +kernel
theorem dX4_init_0 : decode cX4_init 0 = .ok (.aload_n 0, 1) := by decide +kernel
theorem dX4_init_1 : decode cX4_init 1 = .ok (.invokespecial 3, 3) := by decide +kernel
theorem dX4_init_4 : decode cX4_init 4 = .ok (.aload_n 0, 1) := by decide +kernel
theorem dX4_init_5 : decode cX4_init 5 = .ok (.bipush 40, 2) := by decide +kernel
theorem dX4_init_7 : decode cX4_init 7 = .ok (.newarray .int, 2) := by decide +kernel
theorem dX4_init_9 : decode cX4_init 9 = .ok (.putfield 9, 3) := by decide +kernel
theorem dX4_init_12 : decode cX4_init 12 = .ok (.aload_n 0, 1) := by decide +kernel
theorem dX4_init_13 : decode cX4_init 13 = .ok (.iconst 0, 1) := by decide +kernel
theorem dX4_init_14 : decode cX4_init 14 = .ok (.putfield 15, 3) := by decide +kernel
theorem dX4_init_17 : decode cX4_init 17 = .ok (.return_, 1) := by decide +kernel
theorem dX4_literals_0 : decode cX4_literals 0 = .ok (.aload_n 0, 1) := by decide +kernel
theorem dX4_literals_1 : decode cX4_literals 1 = .ok (.getfield 15, 3) := by decide +kernel
theorem dX4_literals_4 : decode cX4_literals 4 = .ok (.ireturn, 1) := by decide +kernel
theorem dX4_isNonLiteral_0 : decode cX4_isNonLiteral 0 = .ok (.iload_n 1, 1) := by decide +kernel
theorem dX4_isNonLiteral_1 : decode cX4_isNonLiteral 1 = .ok (.ifCond .lt 9, 3) := by decide +kernel
theorem dX4_isNonLiteral_4 : decode cX4_isNonLiteral 4 = .ok (.iload_n 1, 1) := by decide +kernel
theorem dX4_isNonLiteral_5 : decode cX4_isNonLiteral 5 = .ok (.bipush 11, 2) := by decide +kernel
theorem dX4_isNonLiteral_7 : decode cX4_isNonLiteral 7 = .ok (.if_icmp .le 28, 3) := by decide +kernel
theorem dX4_isNonLiteral_10 : decode cX4_isNonLiteral 10 = .ok (.iload_n 1, 1) := by decide +kernel
theorem dX4_isNonLiteral_11 : decode cX4_isNonLiteral 11 = .ok (.bipush 20, 2) := by decide +kernel
theorem dX4_isNonLiteral_13 : decode cX4_isNonLiteral 13 = .ok (.if_icmp .lt 9, 3) := by decide +kernel
theorem dX4_isNonLiteral_16 : decode cX4_isNonLiteral 16 = .ok (.iload_n 1, 1) := by decide +kernel
theorem dX4_isNonLiteral_17 : decode cX4_isNonLiteral 17 = .ok (.bipush 29, 2) := by decide +kernel
theorem dX4_isNonLiteral_19 : decode cX4_isNonLiteral 19 = .ok (.if_icmp .lt 16, 3) := by decide +kernel
theorem dX4_isNonLiteral_22 : decode cX4_isNonLiteral 22 = .ok (.iload_n 1, 1) := by decide +kernel
theorem dX4_isNonLiteral_23 : decode cX4_isNonLiteral 23 = .ok (.bipush 100, 2) := by decide +kernel
theorem dX4_isNonLiteral_25 : decode cX4_isNonLiteral 25 = .ok (.if_icmp .lt 14, 3) := by decide +kernel
theorem dX4_isNonLiteral_28 : decode cX4_isNonLiteral 28 = .ok (.iload_n 1, 1) := by decide +kernel
theorem dX4_isNonLiteral_29 : decode cX4_isNonLiteral 29 = .ok (.sipush 199, 3) := by decide +kernel
theorem dX4_isNonLiteral_32 : decode cX4_isNonLiteral 32 = .ok (.if_icmp .gt 7, 3) := by decide +kernel
theorem dX4_isNonLiteral_35 : decode cX4_isNonLiteral 35 = .ok (.iconst 1, 1) := by decide +kernel
theorem dX4_isNonLiteral_36 : decode cX4_isNonLiteral 36 = .ok (.goto 4, 3) := by decide +kernel
theorem dX4_isNonLiteral_39 : decode cX4_isNonLiteral 39 = .ok (.iconst 0, 1) := by decide +kernel
theorem dX4_isNonLiteral_40 : decode cX4_isNonLiteral 40 = .ok (.ireturn, 1) := by decide +kernel
theorem dX4_isLiteral_0 : decode cX4_isLiteral 0 = .ok (.iload_n 1, 1) := by decide +kernel
theorem dX4_isLiteral_1 : decode cX4_isLiteral 1 = .ok (.sipush 300, 3) := by decide +kernel
theorem dX4_isLiteral_4 : decode cX4_isLiteral 4 = .ok (.if_icmp .lt 19, 3) := by decide +kernel
theorem dX4_isLiteral_7 : decode cX4_isLiteral 7 = .ok (.iload_n 1, 1) := by decide +kernel
theorem dX4_isLiteral_8 : decode cX4_isLiteral 8 = .ok (.sipush 300, 3) := by decide +kernel
theorem dX4_isLiteral_11 : decode cX4_isLiteral 11 = .ok (.aload_n 0, 1) := by decide +kernel
theorem dX4_isLiteral_12 : decode cX4_isLiteral 12 = .ok (.getfield 15, 3) := by decide +kernel
theorem dX4_isLiteral_15 : decode cX4_isLiteral 15 = .ok (.iadd, 1) := by decide +kernel
theorem dX4_isLiteral_16 : decode cX4_isLiteral 16 = .ok (.if_icmp .ge 7, 3) := by decide +kernel
theorem dX4_isLiteral_19 : decode cX4_isLiteral 19 = .ok (.iconst 1, 1) := by decide +kernel
theorem dX4_isLiteral_20 : decode cX4_isLiteral 20 = .ok (.goto 4, 3) := by decide +kernel
theorem dX4_isLiteral_23 : decode cX4_isLiteral 23 = .ok (.iconst 0, 1) := by decide +kernel
theorem dX4_isLiteral_24 : decode cX4_isLiteral 24 = .ok (.ireturn, 1) := by decide +kernel
set_option maxRecDepth 20000 in
theorem ggX4_isTerm_X4_isNonLiteral : GoodIn wsX4_isTerm wsX4_isNonLiteral := goodIn_r _ [5] (by decide +kernel) (by decide +kernel)
set_option maxRecDepth 20000 in
theorem gX4_isTerm_X4_isNonLiteral : GoodIn wsX4_isTerm (wsV RX4 19 RX4 yX4_isNonLiteral wsX4_isNonLiteral) := goodIn_app (goodIn_of _ (by decide +kernel)) ggX4_isTerm_X4_isNonLiteral
set_option maxRecDepth 20000 in
theorem ggX4_isTerm_X4_isLiteral : GoodIn wsX4_isTerm wsX4_isLiteral := goodIn_r _ [9, 10, 11, 12] (by decide +kernel) (by decide +kernel)
set_option maxRecDepth 20000 in
theorem gX4_isTerm_X4_isLiteral : GoodIn wsX4_isTerm (wsV RX4 23 RX4 yX4_isLiteral wsX4_isLiteral) := goodIn_app (goodIn_of _ (by decide +kernel)) ggX4_isTerm_X4_isLiteral
theorem dX4_isTerm_0 : decode cX4_isTerm 0 = .ok (.aload_n 0, 1) := by decide +kernel
theorem dX4_isTerm_1 : decode cX4_isTerm 1 = .ok (.iload_n 1, 1) := by decide +kernel
theorem dX4_isTerm_2 : decode cX4_isTerm 2 = .ok (.invokevirtual 19, 3) := by decide +kernel
theorem dX4_isTerm_5 : decode cX4_isTerm 5 = .ok (.ifCond .ne 11, 3) := by decide +kernel
theorem dX4_isTerm_8 : decode cX4_isTerm 8 = .ok (.aload_n 0, 1) := by decide +kernel
theorem dX4_isTerm_9 : decode cX4_isTerm 9 = .ok (.iload_n 1, 1) := by decide +kernel
theorem dX4_isTerm_10 : decode cX4_isTerm 10 = .ok (.invokevirtual 23, 3) := by decide +kernel
theorem dX4_isTerm_13 : decode cX4_isTerm 13 = .ok (.ifCond .eq 7, 3) := by decide +kernel
theorem dX4_isTerm_16 : decode cX4_isTerm 16 = .ok (.iconst 1, 1) := by decide +kernel
theorem dX4_isTerm_17 : decode cX4_isTerm 17 = .ok (.goto 4, 3) := by decide +kernel
theorem dX4_isTerm_20 : decode cX4_isTerm 20 = .ok (.iconst 0, 1) := by decide +kernel
theorem dX4_isTerm_21 : decode cX4_isTerm 21 = .ok (.ireturn, 1) := by decide +kernel
set_option maxRecDepth 20000 in
theorem ggX4_typeOf_X4_isLiteral : GoodIn wsX4_typeOf wsX4_isLiteral := goodIn_r _ [6, 7, 8, 9] (by decide +kernel) (by decide +kernel)
set_option maxRecDepth 20000 in
theorem gX4_typeOf_X4_isLiteral : GoodIn wsX4_typeOf (wsV RX4 23 RX4 yX4_isLiteral wsX4_isLiteral) := goodIn_app (goodIn_of _ (by decide +kernel)) ggX4_typeOf_X4_isLiteral
theorem dX4_typeOf_0 : decode cX4_typeOf 0 = .ok (.aload_n 0, 1) := by decide +kernel
theorem dX4_typeOf_1 : decode cX4_typeOf 1 = .ok (.iload_n 1, 1) := by decide +kernel
theorem dX4_typeOf_2 : decode cX4_typeOf 2 = .ok (.invokevirtual 23, 3) := by decide +kernel
theorem dX4_typeOf_5 : decode cX4_typeOf 5 = .ok (.ifCond .eq 16, 3) := by decide +kernel
theorem dX4_typeOf_8 : decode cX4_typeOf 8 = .ok (.aload_n 0, 1) := by decide +kernel
theorem dX4_typeOf_9 : decode cX4_typeOf 9 = .ok (.getfield 9, 3) := by decide +kernel
theorem dX4_typeOf_12 : decode cX4_typeOf 12 = .ok (.iload_n 1, 1) := by decide +kernel
theorem dX4_typeOf_13 : decode cX4_typeOf 13 = .ok (.sipush 300, 3) := by decide +kernel
theorem dX4_typeOf_16 : decode cX4_typeOf 16 = .ok (.isub, 1) := by decide +kernel
theorem dX4_typeOf_17 : decode cX4_typeOf 17 = .ok (.iaload, 1) := by decide +kernel
theorem dX4_typeOf_18 : decode cX4_typeOf 18 = .ok (.goto 4, 3) := by decide +kernel
theorem dX4_typeOf_21 : decode cX4_typeOf 21 = .ok (.iconst (-1), 1) := by decide +kernel
theorem dX4_typeOf_22 : decode cX4_typeOf 22 = .ok (.ireturn, 1) := by decide +kernel
theorem dX4_addLiteral_0 : decode cX4_addLiteral 0 = .ok (.aload_n 0, 1) := by decide +kernel
theorem dX4_addLiteral_1 : decode cX4_addLiteral 1 = .ok (.getfield 9, 3) := by decide +kernel
theorem dX4_addLiteral_4 : decode cX4_addLiteral 4 = .ok (.aload_n 0, 1) := by decide +kernel
theorem dX4_addLiteral_5 : decode cX4_addLiteral 5 = .ok (.getfield 15, 3) := by decide +kernel
theorem dX4_addLiteral_8 : decode cX4_addLiteral 8 = .ok (.iload_n 1, 1) := by decide +kernel
theorem dX4_addLiteral_9 : decode cX4_addLiteral 9 = .ok (.iastore, 1) := by decide +kernel
theorem dX4_addLiteral_10 : decode cX4_addLiteral 10 = .ok (.aload_n 0, 1) := by decide +kernel
theorem dX4_addLiteral_11 : decode cX4_addLiteral 11 = .ok (.dup, 1) := by decide +kernel
theorem dX4_addLiteral_12 : decode cX4_addLiteral 12 = .ok (.getfield 15, 3) := by decide +kernel
theorem dX4_addLiteral_15 : decode cX4_addLiteral 15 = .ok (.iconst 1, 1) := by decide +kernel
theorem dX4_addLiteral_16 : decode cX4_addLiteral 16 = .ok (.iadd, 1) := by decide +kernel
theorem dX4_addLiteral_17 : decode cX4_addLiteral 17 = .ok (.putfield 15, 3) := by decide +kernel
theorem dX4_addLiteral_20 : decode cX4_addLiteral 20 = .ok (.sipush 300, 3) := by decide +kernel
theorem dX4_addLiteral_23 : decode cX4_addLiteral 23 = .ok (.aload_n 0, 1) := by decide +kernel
theorem dX4_addLiteral_24 : decode cX4_addLiteral 24 = .ok (.getfield 15, 3) := by decide +kernel
theorem dX4_addLiteral_27 : decode cX4_addLiteral 27 = .ok (.iadd, 1) := by decide +kernel
theorem dX4_addLiteral_28 : decode cX4_addLiteral 28 = .ok (.iconst 1, 1) := by decide +kernel
theorem dX4_addLiteral_29 : decode cX4_addLiteral 29 = .ok (.isub, 1) := by decide +kernel
theorem dX4_addLiteral_30 : decode cX4_addLiteral 30 = .ok (.ireturn, 1) := by decide +kernel
end
section
/-! numbers: Booleans as ints, branches on numbers and on Booleans, constants -/
def zb (b : Bool) : Int32 := if b then nI 1 else nI 0
theorem zb_t : zb true = nI 1 := rfl
theorem zb_f : zb false = nI 0 := rfl
theorem zb_nar (b : Bool) : narrow .boolean (.int (zb b)) = .int (zb b) := by cases b <;> decide
theorem zb_fit (b : Bool) : fits .boolean (.int (zb b)) = true := by cases b <;> decide
theorem zb_vnar (b : Bool) : vp_nar .boolean (zb b) = zb b := by cases b <;> decide
theorem zb_0 {b : Bool} : zb b = 0 ↔ b = false := by cases b <;> decide
theorem zb_n0 {b : Bool} : ¬ zb b = 0 ↔ b = true := by cases b <;> decide
section ZN
variable {X : zX} {cc : ByteArray} {nL : Nat} {own : String} {Ts : List Cond} {Rm : Room} {ws : va_W} {n1 n2 pc q : Nat} {lv lv' : List (Nat × Value)} {st : List Value}
theorem z_if_eq_b (C : zC X cc nL own Ts Rm) {b : Bool} {off : Int} {tgt : Nat} (hd : decode cc pc = .ok (.ifCond .eq off, 3)) (ht : (pc : Int) + off = (tgt : Int)) (hq : pc + 3 = q) (kt : b = false → zW X nL ws n1 n2 tgt lv st) (kf : b = true → zW X nL ws n1 n2 q lv st) : zW X nL ws n1 n2 pc lv (.int (zb b) :: st) :=
  z_if_eq C hd ht hq (fun h => kt (zb_0.mp h)) (fun h => kf (zb_n0.mp h))
theorem z_if_ne_b (C : zC X cc nL own Ts Rm) {b : Bool} {off : Int} {tgt : Nat} (hd : decode cc pc = .ok (.ifCond .ne off, 3)) (ht : (pc : Int) + off = (tgt : Int)) (hq : pc + 3 = q) (kt : b = true → zW X nL ws n1 n2 tgt lv st) (kf : b = false → zW X nL ws n1 n2 q lv st) : zW X nL ws n1 n2 pc lv (.int (zb b) :: st) :=
  z_if_ne C hd ht hq (fun h => kt (zb_n0.mp h)) (fun h => kf (zb_0.mp h))
theorem z_if_eq_z (C : zC X cc nL own Ts Rm) {x : Int32} {off : Int} {tgt : Nat} (hd : decode cc pc = .ok (.ifCond .eq off, 3)) (ht : (pc : Int) + off = (tgt : Int)) (hq : pc + 3 = q) (kt : x = nI 0 → zW X nL ws n1 n2 tgt lv st) (kf : ¬ x = nI 0 → zW X nL ws n1 n2 q lv st) : zW X nL ws n1 n2 pc lv (.int x :: st) :=
  z_if_eq C hd ht hq kt kf
theorem z_if_ne_z (C : zC X cc nL own Ts Rm) {x : Int32} {off : Int} {tgt : Nat} (hd : decode cc pc = .ok (.ifCond .ne off, 3)) (ht : (pc : Int) + off = (tgt : Int)) (hq : pc + 3 = q) (kt : ¬ x = nI 0 → zW X nL ws n1 n2 tgt lv st) (kf : x = nI 0 → zW X nL ws n1 n2 q lv st) : zW X nL ws n1 n2 pc lv (.int x :: st) :=
  z_if_ne C hd ht hq kt kf
theorem z_icmp_eq_n (C : zC X cc nL own Ts Rm) {x y : Nat} (hx : x < 2 ^ 31) (hy : y < 2 ^ 31) {off : Int} {tgt : Nat} (hd : decode cc pc = .ok (.if_icmp .eq off, 3)) (ht : (pc : Int) + off = (tgt : Int)) (hq : pc + 3 = q) (kt : x = y → zW X nL ws n1 n2 tgt lv st) (kf : x ≠ y → zW X nL ws n1 n2 q lv st) : zW X nL ws n1 n2 pc lv (.int (nI y) :: .int (nI x) :: st) :=
  z_icmp_eq C hd ht hq (fun h => kt ((nI_eq hx hy).mp h)) (fun h => kf (fun e => h ((nI_eq hx hy).mpr e)))
theorem z_icmp_ne_n (C : zC X cc nL own Ts Rm) {x y : Nat} (hx : x < 2 ^ 31) (hy : y < 2 ^ 31) {off : Int} {tgt : Nat} (hd : decode cc pc = .ok (.if_icmp .ne off, 3)) (ht : (pc : Int) + off = (tgt : Int)) (hq : pc + 3 = q) (kt : x ≠ y → zW X nL ws n1 n2 tgt lv st) (kf : x = y → zW X nL ws n1 n2 q lv st) : zW X nL ws n1 n2 pc lv (.int (nI y) :: .int (nI x) :: st) :=
  z_icmp_ne C hd ht hq (fun h => kt (fun e => h ((nI_eq hx hy).mpr e))) (fun h => kf ((nI_eq hx hy).mp h))
theorem z_icmp_lt_n (C : zC X cc nL own Ts Rm) {x y : Nat} (hx : x < 2 ^ 31) (hy : y < 2 ^ 31) {off : Int} {tgt : Nat} (hd : decode cc pc = .ok (.if_icmp .lt off, 3)) (ht : (pc : Int) + off = (tgt : Int)) (hq : pc + 3 = q) (kt : x < y → zW X nL ws n1 n2 tgt lv st) (kf : y ≤ x → zW X nL ws n1 n2 q lv st) : zW X nL ws n1 n2 pc lv (.int (nI y) :: .int (nI x) :: st) :=
  z_icmp_lt C hd ht hq (fun h => kt ((nI_ltI hx hy).mp h)) (fun h => kf (Nat.not_lt.mp (fun e => h ((nI_ltI hx hy).mpr e))))
theorem z_icmp_ge_n (C : zC X cc nL own Ts Rm) {x y : Nat} (hx : x < 2 ^ 31) (hy : y < 2 ^ 31) {off : Int} {tgt : Nat} (hd : decode cc pc = .ok (.if_icmp .ge off, 3)) (ht : (pc : Int) + off = (tgt : Int)) (hq : pc + 3 = q) (kt : y ≤ x → zW X nL ws n1 n2 tgt lv st) (kf : x < y → zW X nL ws n1 n2 q lv st) : zW X nL ws n1 n2 pc lv (.int (nI y) :: .int (nI x) :: st) :=
  z_icmp_ge C hd ht hq (fun h => kt ((nI_leI hy hx).mp h)) (fun h => kf (Nat.not_le.mp (fun e => h ((nI_leI hy hx).mpr e))))
theorem z_icmp_gt_n (C : zC X cc nL own Ts Rm) {x y : Nat} (hx : x < 2 ^ 31) (hy : y < 2 ^ 31) {off : Int} {tgt : Nat} (hd : decode cc pc = .ok (.if_icmp .gt off, 3)) (ht : (pc : Int) + off = (tgt : Int)) (hq : pc + 3 = q) (kt : y < x → zW X nL ws n1 n2 tgt lv st) (kf : x ≤ y → zW X nL ws n1 n2 q lv st) : zW X nL ws n1 n2 pc lv (.int (nI y) :: .int (nI x) :: st) :=
  z_icmp_gt C hd ht hq (fun h => kt ((nI_ltI hy hx).mp h)) (fun h => kf (Nat.not_lt.mp (fun e => h ((nI_ltI hy hx).mpr e))))
theorem z_icmp_le_n (C : zC X cc nL own Ts Rm) {x y : Nat} (hx : x < 2 ^ 31) (hy : y < 2 ^ 31) {off : Int} {tgt : Nat} (hd : decode cc pc = .ok (.if_icmp .le off, 3)) (ht : (pc : Int) + off = (tgt : Int)) (hq : pc + 3 = q) (kt : x ≤ y → zW X nL ws n1 n2 tgt lv st) (kf : y < x → zW X nL ws n1 n2 q lv st) : zW X nL ws n1 n2 pc lv (.int (nI y) :: .int (nI x) :: st) :=
  z_icmp_le C hd ht hq (fun h => kt ((nI_leI hx hy).mp h)) (fun h => kf (Nat.not_le.mp (fun e => h ((nI_leI hx hy).mpr e))))
theorem nI_eq0 {x : Nat} (hx : x < 2 ^ 31) : nI x = 0 ↔ x = 0 := by rw [← nI_0]; exact nI_eq hx (by decide)
theorem nI_gt0 {x : Nat} (hx : x < 2 ^ 31) : 0 < nI x ↔ 0 < x := by rw [← nI_0]; exact nI_ltI (by decide) hx
theorem nI_le0 {x : Nat} (hx : x < 2 ^ 31) : nI x ≤ 0 ↔ x = 0 := by rw [← nI_0, nI_leI hx (by decide)]; omega
theorem z_if_eq_n (C : zC X cc nL own Ts Rm) {x : Nat} (hx : x < 2 ^ 31) {off : Int} {tgt : Nat} (hd : decode cc pc = .ok (.ifCond .eq off, 3)) (ht : (pc : Int) + off = (tgt : Int)) (hq : pc + 3 = q) (kt : x = 0 → zW X nL ws n1 n2 tgt lv st) (kf : x ≠ 0 → zW X nL ws n1 n2 q lv st) : zW X nL ws n1 n2 pc lv (.int (nI x) :: st) :=
  z_if_eq C hd ht hq (fun h => kt (nI_eq0 hx |>.mp h)) (fun h => kf (fun e => h ((nI_eq0 hx).mpr e)))
theorem z_if_ne_n (C : zC X cc nL own Ts Rm) {x : Nat} (hx : x < 2 ^ 31) {off : Int} {tgt : Nat} (hd : decode cc pc = .ok (.ifCond .ne off, 3)) (ht : (pc : Int) + off = (tgt : Int)) (hq : pc + 3 = q) (kt : x ≠ 0 → zW X nL ws n1 n2 tgt lv st) (kf : x = 0 → zW X nL ws n1 n2 q lv st) : zW X nL ws n1 n2 pc lv (.int (nI x) :: st) :=
  z_if_ne C hd ht hq (fun h => kt (fun e => h ((nI_eq0 hx).mpr e))) (fun h => kf (nI_eq0 hx |>.mp h))
theorem z_if_gt_n (C : zC X cc nL own Ts Rm) {x : Nat} (hx : x < 2 ^ 31) {off : Int} {tgt : Nat} (hd : decode cc pc = .ok (.ifCond .gt off, 3)) (ht : (pc : Int) + off = (tgt : Int)) (hq : pc + 3 = q) (kt : 0 < x → zW X nL ws n1 n2 tgt lv st) (kf : x = 0 → zW X nL ws n1 n2 q lv st) : zW X nL ws n1 n2 pc lv (.int (nI x) :: st) :=
  z_if_gt C hd ht hq (fun h => kt (nI_gt0 hx |>.mp h)) (fun h => kf (Nat.eq_zero_of_not_pos (fun e => h ((nI_gt0 hx).mpr e))))
theorem z_if_le_n (C : zC X cc nL own Ts Rm) {x : Nat} (hx : x < 2 ^ 31) {off : Int} {tgt : Nat} (hd : decode cc pc = .ok (.ifCond .le off, 3)) (ht : (pc : Int) + off = (tgt : Int)) (hq : pc + 3 = q) (kt : x = 0 → zW X nL ws n1 n2 tgt lv st) (kf : 0 < x → zW X nL ws n1 n2 q lv st) : zW X nL ws n1 n2 pc lv (.int (nI x) :: st) :=
  z_if_le C hd ht hq (fun h => kt (nI_le0 hx |>.mp h)) (fun h => kf (Nat.pos_of_ne_zero (fun e => h ((nI_le0 hx).mpr e))))
theorem z_if_lt_n (C : zC X cc nL own Ts Rm) {x : Nat} (hx : x < 2 ^ 31) {off : Int} {tgt : Nat} (hd : decode cc pc = .ok (.ifCond .lt off, 3)) (ht : (pc : Int) + off = (tgt : Int)) (hq : pc + 3 = q) (kt : False → zW X nL ws n1 n2 tgt lv st) (kf : True → zW X nL ws n1 n2 q lv st) : zW X nL ws n1 n2 pc lv (.int (nI x) :: st) :=
  z_if_lt C hd ht hq (fun h => kt (absurd h (nI_pos hx))) (fun h => kf (trivial))
theorem z_if_ge_n (C : zC X cc nL own Ts Rm) {x : Nat} (hx : x < 2 ^ 31) {off : Int} {tgt : Nat} (hd : decode cc pc = .ok (.ifCond .ge off, 3)) (ht : (pc : Int) + off = (tgt : Int)) (hq : pc + 3 = q) (kt : True → zW X nL ws n1 n2 tgt lv st) (kf : False → zW X nL ws n1 n2 q lv st) : zW X nL ws n1 n2 pc lv (.int (nI x) :: st) :=
  z_if_ge C hd ht hq (fun h => kt (trivial)) (fun h => kf (h (nI_pos' hx)))
theorem z_icmp_lt_i (C : zC X cc nL own Ts Rm) {x y : Int32} {a b : Int} (hx : x.toInt = a) (hy : y.toInt = b) {off : Int} {tgt : Nat} (hd : decode cc pc = .ok (.if_icmp .lt off, 3)) (ht : (pc : Int) + off = (tgt : Int)) (hq : pc + 3 = q) (kt : a < b → zW X nL ws n1 n2 tgt lv st) (kf : b ≤ a → zW X nL ws n1 n2 q lv st) : zW X nL ws n1 n2 pc lv (.int y :: .int x :: st) :=
  z_icmp_lt C hd ht hq (fun h => kt (by rw [← hx, ← hy]; exact Int32.lt_iff_toInt_lt.mp h)) (fun h => kf (by rw [← hx, ← hy]; exact Int.not_lt.mp (fun e => h (Int32.lt_iff_toInt_lt.mpr e))))
theorem z_icmp_ge_i (C : zC X cc nL own Ts Rm) {x y : Int32} {a b : Int} (hx : x.toInt = a) (hy : y.toInt = b) {off : Int} {tgt : Nat} (hd : decode cc pc = .ok (.if_icmp .ge off, 3)) (ht : (pc : Int) + off = (tgt : Int)) (hq : pc + 3 = q) (kt : b ≤ a → zW X nL ws n1 n2 tgt lv st) (kf : a < b → zW X nL ws n1 n2 q lv st) : zW X nL ws n1 n2 pc lv (.int y :: .int x :: st) :=
  z_icmp_ge C hd ht hq (fun h => kt (by rw [← hx, ← hy]; exact Int32.le_iff_toInt_le.mp h)) (fun h => kf (by rw [← hx, ← hy]; exact Int.not_le.mp (fun e => h (Int32.le_iff_toInt_le.mpr e))))
theorem z_icmp_gt_i (C : zC X cc nL own Ts Rm) {x y : Int32} {a b : Int} (hx : x.toInt = a) (hy : y.toInt = b) {off : Int} {tgt : Nat} (hd : decode cc pc = .ok (.if_icmp .gt off, 3)) (ht : (pc : Int) + off = (tgt : Int)) (hq : pc + 3 = q) (kt : b < a → zW X nL ws n1 n2 tgt lv st) (kf : a ≤ b → zW X nL ws n1 n2 q lv st) : zW X nL ws n1 n2 pc lv (.int y :: .int x :: st) :=
  z_icmp_gt C hd ht hq (fun h => kt (by rw [← hx, ← hy]; exact Int32.lt_iff_toInt_lt.mp h)) (fun h => kf (by rw [← hx, ← hy]; exact Int.not_lt.mp (fun e => h (Int32.lt_iff_toInt_lt.mpr e))))
theorem z_icmp_le_i (C : zC X cc nL own Ts Rm) {x y : Int32} {a b : Int} (hx : x.toInt = a) (hy : y.toInt = b) {off : Int} {tgt : Nat} (hd : decode cc pc = .ok (.if_icmp .le off, 3)) (ht : (pc : Int) + off = (tgt : Int)) (hq : pc + 3 = q) (kt : a ≤ b → zW X nL ws n1 n2 tgt lv st) (kf : b < a → zW X nL ws n1 n2 q lv st) : zW X nL ws n1 n2 pc lv (.int y :: .int x :: st) :=
  z_icmp_le C hd ht hq (fun h => kt (by rw [← hx, ← hy]; exact Int32.le_iff_toInt_le.mp h)) (fun h => kf (by rw [← hx, ← hy]; exact Int.not_le.mp (fun e => h (Int32.le_iff_toInt_le.mpr e))))
theorem z_if_lt_i (C : zC X cc nL own Ts Rm) {x : Int32} {a : Int} (hx : x.toInt = a) {off : Int} {tgt : Nat} (hd : decode cc pc = .ok (.ifCond .lt off, 3)) (ht : (pc : Int) + off = (tgt : Int)) (hq : pc + 3 = q) (kt : a < 0 → zW X nL ws n1 n2 tgt lv st) (kf : 0 ≤ a → zW X nL ws n1 n2 q lv st) : zW X nL ws n1 n2 pc lv (.int x :: st) :=
  z_if_lt C hd ht hq (fun h => kt (by rw [← hx]; exact Int32.lt_iff_toInt_lt.mp h)) (fun h => kf (by rw [← hx]; exact Int.not_lt.mp (fun e => h (Int32.lt_iff_toInt_lt.mpr e))))
theorem z_if_ge_i (C : zC X cc nL own Ts Rm) {x : Int32} {a : Int} (hx : x.toInt = a) {off : Int} {tgt : Nat} (hd : decode cc pc = .ok (.ifCond .ge off, 3)) (ht : (pc : Int) + off = (tgt : Int)) (hq : pc + 3 = q) (kt : 0 ≤ a → zW X nL ws n1 n2 tgt lv st) (kf : a < 0 → zW X nL ws n1 n2 q lv st) : zW X nL ws n1 n2 pc lv (.int x :: st) :=
  z_if_ge C hd ht hq (fun h => kt (by rw [← hx]; exact Int32.le_iff_toInt_le.mp h)) (fun h => kf (by rw [← hx]; exact Int.not_le.mp (fun e => h (Int32.le_iff_toInt_le.mpr e))))
theorem z_if_gt_i (C : zC X cc nL own Ts Rm) {x : Int32} {a : Int} (hx : x.toInt = a) {off : Int} {tgt : Nat} (hd : decode cc pc = .ok (.ifCond .gt off, 3)) (ht : (pc : Int) + off = (tgt : Int)) (hq : pc + 3 = q) (kt : 0 < a → zW X nL ws n1 n2 tgt lv st) (kf : a ≤ 0 → zW X nL ws n1 n2 q lv st) : zW X nL ws n1 n2 pc lv (.int x :: st) :=
  z_if_gt C hd ht hq (fun h => kt (by rw [← hx]; exact Int32.lt_iff_toInt_lt.mp h)) (fun h => kf (by rw [← hx]; exact Int.not_lt.mp (fun e => h (Int32.lt_iff_toInt_lt.mpr e))))
theorem z_if_le_i (C : zC X cc nL own Ts Rm) {x : Int32} {a : Int} (hx : x.toInt = a) {off : Int} {tgt : Nat} (hd : decode cc pc = .ok (.ifCond .le off, 3)) (ht : (pc : Int) + off = (tgt : Int)) (hq : pc + 3 = q) (kt : a ≤ 0 → zW X nL ws n1 n2 tgt lv st) (kf : 0 < a → zW X nL ws n1 n2 q lv st) : zW X nL ws n1 n2 pc lv (.int x :: st) :=
  z_if_le C hd ht hq (fun h => kt (by rw [← hx]; exact Int32.le_iff_toInt_le.mp h)) (fun h => kf (by rw [← hx]; exact Int.not_le.mp (fun e => h (Int32.le_iff_toInt_le.mpr e))))
end ZN
theorem k_bipush_m2 : (Int8.ofInt (-2)).toInt32 = (-2) := by decide
theorem k_bipush_6 : (Int8.ofInt (6)).toInt32 = nI 6 := by decide
theorem k_bipush_7 : (Int8.ofInt (7)).toInt32 = nI 7 := by decide
theorem k_bipush_8 : (Int8.ofInt (8)).toInt32 = nI 8 := by decide
theorem k_bipush_9 : (Int8.ofInt (9)).toInt32 = nI 9 := by decide
theorem k_bipush_10 : (Int8.ofInt (10)).toInt32 = nI 10 := by decide
theorem k_bipush_11 : (Int8.ofInt (11)).toInt32 = nI 11 := by decide
theorem k_bipush_12 : (Int8.ofInt (12)).toInt32 = nI 12 := by decide
theorem k_bipush_13 : (Int8.ofInt (13)).toInt32 = nI 13 := by decide
theorem k_bipush_14 : (Int8.ofInt (14)).toInt32 = nI 14 := by decide
theorem k_bipush_15 : (Int8.ofInt (15)).toInt32 = nI 15 := by decide
theorem k_bipush_20 : (Int8.ofInt (20)).toInt32 = nI 20 := by decide
theorem k_bipush_22 : (Int8.ofInt (22)).toInt32 = nI 22 := by decide
theorem k_bipush_28 : (Int8.ofInt (28)).toInt32 = nI 28 := by decide
theorem k_bipush_29 : (Int8.ofInt (29)).toInt32 = nI 29 := by decide
theorem k_bipush_40 : (Int8.ofInt (40)).toInt32 = nI 40 := by decide
theorem k_bipush_42 : (Int8.ofInt (42)).toInt32 = nI 42 := by decide
theorem k_bipush_80 : (Int8.ofInt (80)).toInt32 = nI 80 := by decide
theorem k_bipush_100 : (Int8.ofInt (100)).toInt32 = nI 100 := by decide
theorem k_iconst_m1 : Int32.ofInt (-1) = (-1) := by decide
theorem k_iconst_0 : Int32.ofInt (0) = nI 0 := by decide
theorem k_iconst_1 : Int32.ofInt (1) = nI 1 := by decide
theorem k_iconst_2 : Int32.ofInt (2) = nI 2 := by decide
theorem k_iconst_3 : Int32.ofInt (3) = nI 3 := by decide
theorem k_iconst_4 : Int32.ofInt (4) = nI 4 := by decide
theorem k_iconst_5 : Int32.ofInt (5) = nI 5 := by decide
theorem k_inc1 (a : Nat) : nI a + Int32.ofInt 1 = nI (a + 1) := nI_add a 1
theorem k_inc4 (a : Nat) : nI a + Int32.ofInt 4 = nI (a + 4) := nI_add a 4
theorem k_ldc_40603 : (40603 : Int32) = nI 40603 := by decide
theorem k_ldc_40703 : (40703 : Int32) = nI 40703 := by decide
theorem k_ldc_50601 : (50601 : Int32) = nI 50601 := by decide
theorem k_ldc_50701 : (50701 : Int32) = nI 50701 := by decide
theorem k_ldc_60601 : (60601 : Int32) = nI 60601 := by decide
theorem k_ldc_60703 : (60703 : Int32) = nI 60703 := by decide
theorem k_ldc_70601 : (70601 : Int32) = nI 70601 := by decide
theorem k_ldc_70703 : (70703 : Int32) = nI 70703 := by decide
theorem k_ldc_90403 : (90403 : Int32) = nI 90403 := by decide
theorem k_ldc_100602 : (100602 : Int32) = nI 100602 := by decide
theorem k_ldc_100702 : (100702 : Int32) = nI 100702 := by decide
theorem k_ldc_110401 : (110401 : Int32) = nI 110401 := by decide
theorem k_sipush_199 : (Int16.ofInt (199)).toInt32 = nI 199 := by decide
theorem k_sipush_240 : (Int16.ofInt (240)).toInt32 = nI 240 := by decide
theorem k_sipush_300 : (Int16.ofInt (300)).toInt32 = nI 300 := by decide
theorem k_sipush_400 : (Int16.ofInt (400)).toInt32 = nI 400 := by decide
theorem k_sipush_600 : (Int16.ofInt (600)).toInt32 = nI 600 := by decide
theorem k_sipush_601 : (Int16.ofInt (601)).toInt32 = nI 601 := by decide
theorem k_sipush_602 : (Int16.ofInt (602)).toInt32 = nI 602 := by decide
theorem k_sipush_613 : (Int16.ofInt (613)).toInt32 = nI 613 := by decide
theorem k_sipush_702 : (Int16.ofInt (702)).toInt32 = nI 702 := by decide
theorem k_sipush_703 : (Int16.ofInt (703)).toInt32 = nI 703 := by decide
theorem k_sipush_1023 : (Int16.ofInt (1023)).toInt32 = nI 1023 := by decide
theorem k_sipush_1024 : (Int16.ofInt (1024)).toInt32 = nI 1024 := by decide
theorem k_sipush_2048 : (Int16.ofInt (2048)).toInt32 = nI 2048 := by decide
theorem k_sipush_4200 : (Int16.ofInt (4200)).toInt32 = nI 4200 := by decide
theorem k_sipush_4207 : (Int16.ofInt (4207)).toInt32 = nI 4207 := by decide
theorem k_sipush_10000 : (Int16.ofInt (10000)).toInt32 = nI 10000 := by decide

theorem ti_0 : (nI 0).toInt = 0 := by decide
theorem ti_1 : (nI 1).toInt = 1 := by decide
theorem ti_2 : (nI 2).toInt = 2 := by decide
theorem ti_3 : (nI 3).toInt = 3 := by decide
theorem ti_4 : (nI 4).toInt = 4 := by decide
theorem ti_5 : (nI 5).toInt = 5 := by decide
theorem ti_6 : (nI 6).toInt = 6 := by decide
theorem ti_7 : (nI 7).toInt = 7 := by decide
theorem ti_8 : (nI 8).toInt = 8 := by decide
theorem ti_9 : (nI 9).toInt = 9 := by decide
theorem ti_10 : (nI 10).toInt = 10 := by decide
theorem ti_11 : (nI 11).toInt = 11 := by decide
theorem ti_12 : (nI 12).toInt = 12 := by decide
theorem ti_13 : (nI 13).toInt = 13 := by decide
theorem ti_14 : (nI 14).toInt = 14 := by decide
theorem ti_15 : (nI 15).toInt = 15 := by decide
theorem ti_20 : (nI 20).toInt = 20 := by decide
theorem ti_22 : (nI 22).toInt = 22 := by decide
theorem ti_28 : (nI 28).toInt = 28 := by decide
theorem ti_29 : (nI 29).toInt = 29 := by decide
theorem ti_40 : (nI 40).toInt = 40 := by decide
theorem ti_42 : (nI 42).toInt = 42 := by decide
theorem ti_80 : (nI 80).toInt = 80 := by decide
theorem ti_100 : (nI 100).toInt = 100 := by decide
theorem ti_199 : (nI 199).toInt = 199 := by decide
theorem ti_240 : (nI 240).toInt = 240 := by decide
theorem ti_300 : (nI 300).toInt = 300 := by decide
theorem ti_400 : (nI 400).toInt = 400 := by decide
theorem ti_600 : (nI 600).toInt = 600 := by decide
theorem ti_601 : (nI 601).toInt = 601 := by decide
theorem ti_602 : (nI 602).toInt = 602 := by decide
theorem ti_613 : (nI 613).toInt = 613 := by decide
theorem ti_702 : (nI 702).toInt = 702 := by decide
theorem ti_703 : (nI 703).toInt = 703 := by decide
theorem ti_1023 : (nI 1023).toInt = 1023 := by decide
theorem ti_1024 : (nI 1024).toInt = 1024 := by decide
theorem ti_2048 : (nI 2048).toInt = 2048 := by decide
theorem ti_4200 : (nI 4200).toInt = 4200 := by decide
theorem ti_4207 : (nI 4207).toInt = 4207 := by decide
theorem ti_10000 : (nI 10000).toInt = 10000 := by decide
theorem ti_40603 : (nI 40603).toInt = 40603 := by decide
theorem ti_40703 : (nI 40703).toInt = 40703 := by decide
theorem ti_50601 : (nI 50601).toInt = 50601 := by decide
theorem ti_50701 : (nI 50701).toInt = 50701 := by decide
theorem ti_60601 : (nI 60601).toInt = 60601 := by decide
theorem ti_60703 : (nI 60703).toInt = 60703 := by decide
theorem ti_70601 : (nI 70601).toInt = 70601 := by decide
theorem ti_70703 : (nI 70703).toInt = 70703 := by decide
theorem ti_90403 : (nI 90403).toInt = 90403 := by decide
theorem ti_100602 : (nI 100602).toInt = 100602 := by decide
theorem ti_100702 : (nI 100702).toInt = 100702 := by decide
theorem ti_110401 : (nI 110401).toInt = 110401 := by decide
theorem ti_m1 : ((-1) : Int32).toInt = -1 := by decide
theorem ti_m2 : ((-2) : Int32).toInt = -2 := by decide
theorem zb_is1 {b : Bool} (h : b = true) : nI 1 = zb b := by rw [h]; rfl
theorem zb_is0 {b : Bool} (h : b = false) : nI 0 = zb b := by rw [h]; rfl
end
section
/-! Terms -/
def plainB (x : Int32) : Bool := decide ((0 ≤ x.toInt ∧ x.toInt ≤ 11) ∨ (20 ≤ x.toInt ∧ x.toInt ≤ 28) ∨ (100 ≤ x.toInt ∧ x.toInt ≤ 199))
def litB (n : Nat) (x : Int32) : Bool := decide (300 ≤ x.toInt ∧ x.toInt < 300 + (n : Int))

set_option maxHeartbeats 4000000 in
set_option maxRecDepth 100000 in
theorem c_X4_literals (l : Launch) (D : va_G) (g : ClassId × ClassId × ClassId) (h a : Nat) (f : Nat → Int32) (n : Nat) : zM l yX4_literals wsX4_literals ({ frames := 0, cells := 0, slots := 0, locals := 0 } : Room) D g [.ref h] [(h, .inr (4, [.ref a, .int (nI n)])), (a, .inl (g.1, 40, .inl f))] 0 0 (fun v w1 => v = some (.int (nI n)) ∧ w1 = [(h, .inr (4, [.ref a, .int (nI n)])), (a, .inl (g.1, 40, .inl f))]) := by
  refine z_met (cc := cX4_literals) (maxL := 1) (ret := (some .int)) (lv := [(0, .ref h)]) (by decide) rfl (Nat.le_of_ble_eq_true rfl) rfl ?_
  intro X hXD hXg hXl hnm C E
  subst hXD hXg hXl
  have C : zC X cX4_literals 1 RX4 wsX4_literals ({ frames := 0, cells := 0, slots := 0, locals := 0 } : Room) := C
  have hiX4 : ∀ w ∈ u_ws RX4 TX4 2, w ∈ wsX4_literals := by decide +kernel
  have hf15 : Cond.fieldLink RX4 15 "RdfsRules$Terms" "literals" "I" ∈ wsX4_literals := by decide +kernel
  refine z_aload_n (q := 1) C 0 rfl rfl dX4_literals_0 rfl ?_
  refine z_get (q := 4) (v := .int (nI n)) C hiX4 0 1 rfl rfl (by decide) hf15 rfl dX4_literals_1 rfl ?_
  refine z_iret C E (by omega) (by omega) dX4_literals_4 ?_
  exact ⟨rfl, rfl⟩

set_option maxHeartbeats 4000000 in
set_option maxRecDepth 100000 in
theorem c_X4_isNonLiteral (l : Launch) (D : va_G) (g : ClassId × ClassId × ClassId) (h a n : Nat) (x : Int32) : zM l yX4_isNonLiteral wsX4_isNonLiteral ({ frames := 0, cells := 0, slots := 0, locals := 0 } : Room) D g [.ref h, .int x] [(h, .inr (4, [.ref a, .int (nI n)]))] 0 0 (fun v w1 => v = some (.int (zb (plainB x))) ∧ w1 = [(h, .inr (4, [.ref a, .int (nI n)]))]) := by
  refine z_met (cc := cX4_isNonLiteral) (maxL := 2) (ret := (some .boolean)) (lv := [(0, .ref h), (1, .int x)]) (by decide) rfl (Nat.le_of_ble_eq_true rfl) rfl ?_
  intro X hXD hXg hXl hnm C E
  subst hXD hXg hXl
  have C : zC X cX4_isNonLiteral 2 RX4 wsX4_isNonLiteral ({ frames := 0, cells := 0, slots := 0, locals := 0 } : Room) := C
  refine z_iload_n (q := 1) C 1 rfl rfl dX4_isNonLiteral_0 rfl ?_
  refine z_if_lt_i (q := 4) (tgt := 10) C rfl dX4_isNonLiteral_1 (by decide) rfl (fun c1 => ?_) (fun c1 => ?_)
  · skip
    refine z_iload_n (q := 11) C 1 rfl rfl dX4_isNonLiteral_10 rfl ?_
    refine z_bipush (q := 13) C k_bipush_20 dX4_isNonLiteral_11 rfl ?_
    refine z_icmp_lt_i (q := 16) (tgt := 22) C rfl ti_20 dX4_isNonLiteral_13 (by decide) rfl (fun c13 => ?_) (fun c13 => ?_)
    · skip
      refine z_iload_n (q := 23) C 1 rfl rfl dX4_isNonLiteral_22 rfl ?_
      refine z_bipush (q := 25) C k_bipush_100 dX4_isNonLiteral_23 rfl ?_
      refine z_icmp_lt_i (q := 28) (tgt := 39) C rfl ti_100 dX4_isNonLiteral_25 (by decide) rfl (fun c25 => ?_) (fun c25 => ?_)
      · skip
        refine z_iconst (q := 40) C k_iconst_0 dX4_isNonLiteral_39 rfl ?_
        refine z_zret C E (by omega) (by omega) (by decide) dX4_isNonLiteral_40 ?_
        exact ⟨congrArg (fun z => some (Value.int z)) (zb_is0 (decide_eq_false (by omega))), rfl⟩
      · skip
        refine z_iload_n (q := 29) C 1 rfl rfl dX4_isNonLiteral_28 rfl ?_
        refine z_sipush (q := 32) C k_sipush_199 dX4_isNonLiteral_29 rfl ?_
        refine z_icmp_gt_i (q := 35) (tgt := 39) C rfl ti_199 dX4_isNonLiteral_32 (by decide) rfl (fun c32 => ?_) (fun c32 => ?_)
        · skip
          refine z_iconst (q := 40) C k_iconst_0 dX4_isNonLiteral_39 rfl ?_
          refine z_zret C E (by omega) (by omega) (by decide) dX4_isNonLiteral_40 ?_
          exact ⟨congrArg (fun z => some (Value.int z)) (zb_is0 (decide_eq_false (by omega))), rfl⟩
        · skip
          refine z_iconst (q := 36) C k_iconst_1 dX4_isNonLiteral_35 rfl ?_
          refine z_goto (tgt := 40) C dX4_isNonLiteral_36 (by decide) ?_
          refine z_zret C E (by omega) (by omega) (by decide) dX4_isNonLiteral_40 ?_
          exact ⟨congrArg (fun z => some (Value.int z)) (zb_is1 (decide_eq_true (by omega))), rfl⟩
    · skip
      refine z_iload_n (q := 17) C 1 rfl rfl dX4_isNonLiteral_16 rfl ?_
      refine z_bipush (q := 19) C k_bipush_29 dX4_isNonLiteral_17 rfl ?_
      refine z_icmp_lt_i (q := 22) (tgt := 35) C rfl ti_29 dX4_isNonLiteral_19 (by decide) rfl (fun c19 => ?_) (fun c19 => ?_)
      · skip
        refine z_iconst (q := 36) C k_iconst_1 dX4_isNonLiteral_35 rfl ?_
        refine z_goto (tgt := 40) C dX4_isNonLiteral_36 (by decide) ?_
        refine z_zret C E (by omega) (by omega) (by decide) dX4_isNonLiteral_40 ?_
        exact ⟨congrArg (fun z => some (Value.int z)) (zb_is1 (decide_eq_true (by omega))), rfl⟩
      · skip
        refine z_iload_n (q := 23) C 1 rfl rfl dX4_isNonLiteral_22 rfl ?_
        refine z_bipush (q := 25) C k_bipush_100 dX4_isNonLiteral_23 rfl ?_
        refine z_icmp_lt_i (q := 28) (tgt := 39) C rfl ti_100 dX4_isNonLiteral_25 (by decide) rfl (fun c25 => ?_) (fun c25 => ?_)
        · skip
          refine z_iconst (q := 40) C k_iconst_0 dX4_isNonLiteral_39 rfl ?_
          refine z_zret C E (by omega) (by omega) (by decide) dX4_isNonLiteral_40 ?_
          exact ⟨congrArg (fun z => some (Value.int z)) (zb_is0 (decide_eq_false (by omega))), rfl⟩
        · skip
          refine z_iload_n (q := 29) C 1 rfl rfl dX4_isNonLiteral_28 rfl ?_
          refine z_sipush (q := 32) C k_sipush_199 dX4_isNonLiteral_29 rfl ?_
          refine z_icmp_gt_i (q := 35) (tgt := 39) C rfl ti_199 dX4_isNonLiteral_32 (by decide) rfl (fun c32 => ?_) (fun c32 => ?_)
          · skip
            refine z_iconst (q := 40) C k_iconst_0 dX4_isNonLiteral_39 rfl ?_
            refine z_zret C E (by omega) (by omega) (by decide) dX4_isNonLiteral_40 ?_
            exact ⟨congrArg (fun z => some (Value.int z)) (zb_is0 (decide_eq_false (by omega))), rfl⟩
          · skip
            refine z_iconst (q := 36) C k_iconst_1 dX4_isNonLiteral_35 rfl ?_
            refine z_goto (tgt := 40) C dX4_isNonLiteral_36 (by decide) ?_
            refine z_zret C E (by omega) (by omega) (by decide) dX4_isNonLiteral_40 ?_
            exact ⟨congrArg (fun z => some (Value.int z)) (zb_is1 (decide_eq_true (by omega))), rfl⟩
  · skip
    refine z_iload_n (q := 5) C 1 rfl rfl dX4_isNonLiteral_4 rfl ?_
    refine z_bipush (q := 7) C k_bipush_11 dX4_isNonLiteral_5 rfl ?_
    refine z_icmp_le_i (q := 10) (tgt := 35) C rfl ti_11 dX4_isNonLiteral_7 (by decide) rfl (fun c7 => ?_) (fun c7 => ?_)
    · skip
      refine z_iconst (q := 36) C k_iconst_1 dX4_isNonLiteral_35 rfl ?_
      refine z_goto (tgt := 40) C dX4_isNonLiteral_36 (by decide) ?_
      refine z_zret C E (by omega) (by omega) (by decide) dX4_isNonLiteral_40 ?_
      exact ⟨congrArg (fun z => some (Value.int z)) (zb_is1 (decide_eq_true (by omega))), rfl⟩
    · skip
      refine z_iload_n (q := 11) C 1 rfl rfl dX4_isNonLiteral_10 rfl ?_
      refine z_bipush (q := 13) C k_bipush_20 dX4_isNonLiteral_11 rfl ?_
      refine z_icmp_lt_i (q := 16) (tgt := 22) C rfl ti_20 dX4_isNonLiteral_13 (by decide) rfl (fun c13 => ?_) (fun c13 => ?_)
      · skip
        refine z_iload_n (q := 23) C 1 rfl rfl dX4_isNonLiteral_22 rfl ?_
        refine z_bipush (q := 25) C k_bipush_100 dX4_isNonLiteral_23 rfl ?_
        refine z_icmp_lt_i (q := 28) (tgt := 39) C rfl ti_100 dX4_isNonLiteral_25 (by decide) rfl (fun c25 => ?_) (fun c25 => ?_)
        · skip
          refine z_iconst (q := 40) C k_iconst_0 dX4_isNonLiteral_39 rfl ?_
          refine z_zret C E (by omega) (by omega) (by decide) dX4_isNonLiteral_40 ?_
          exact ⟨congrArg (fun z => some (Value.int z)) (zb_is0 (decide_eq_false (by omega))), rfl⟩
        · skip
          refine z_iload_n (q := 29) C 1 rfl rfl dX4_isNonLiteral_28 rfl ?_
          refine z_sipush (q := 32) C k_sipush_199 dX4_isNonLiteral_29 rfl ?_
          refine z_icmp_gt_i (q := 35) (tgt := 39) C rfl ti_199 dX4_isNonLiteral_32 (by decide) rfl (fun c32 => ?_) (fun c32 => ?_)
          · skip
            refine z_iconst (q := 40) C k_iconst_0 dX4_isNonLiteral_39 rfl ?_
            refine z_zret C E (by omega) (by omega) (by decide) dX4_isNonLiteral_40 ?_
            exact ⟨congrArg (fun z => some (Value.int z)) (zb_is0 (decide_eq_false (by omega))), rfl⟩
          · skip
            refine z_iconst (q := 36) C k_iconst_1 dX4_isNonLiteral_35 rfl ?_
            refine z_goto (tgt := 40) C dX4_isNonLiteral_36 (by decide) ?_
            refine z_zret C E (by omega) (by omega) (by decide) dX4_isNonLiteral_40 ?_
            exact ⟨congrArg (fun z => some (Value.int z)) (zb_is1 (decide_eq_true (by omega))), rfl⟩
      · skip
        refine z_iload_n (q := 17) C 1 rfl rfl dX4_isNonLiteral_16 rfl ?_
        refine z_bipush (q := 19) C k_bipush_29 dX4_isNonLiteral_17 rfl ?_
        refine z_icmp_lt_i (q := 22) (tgt := 35) C rfl ti_29 dX4_isNonLiteral_19 (by decide) rfl (fun c19 => ?_) (fun c19 => ?_)
        · skip
          refine z_iconst (q := 36) C k_iconst_1 dX4_isNonLiteral_35 rfl ?_
          refine z_goto (tgt := 40) C dX4_isNonLiteral_36 (by decide) ?_
          refine z_zret C E (by omega) (by omega) (by decide) dX4_isNonLiteral_40 ?_
          exact ⟨congrArg (fun z => some (Value.int z)) (zb_is1 (decide_eq_true (by omega))), rfl⟩
        · skip
          refine z_iload_n (q := 23) C 1 rfl rfl dX4_isNonLiteral_22 rfl ?_
          refine z_bipush (q := 25) C k_bipush_100 dX4_isNonLiteral_23 rfl ?_
          refine z_icmp_lt_i (q := 28) (tgt := 39) C rfl ti_100 dX4_isNonLiteral_25 (by decide) rfl (fun c25 => ?_) (fun c25 => ?_)
          · skip
            refine z_iconst (q := 40) C k_iconst_0 dX4_isNonLiteral_39 rfl ?_
            refine z_zret C E (by omega) (by omega) (by decide) dX4_isNonLiteral_40 ?_
            exact ⟨congrArg (fun z => some (Value.int z)) (zb_is0 (decide_eq_false (by omega))), rfl⟩
          · skip
            refine z_iload_n (q := 29) C 1 rfl rfl dX4_isNonLiteral_28 rfl ?_
            refine z_sipush (q := 32) C k_sipush_199 dX4_isNonLiteral_29 rfl ?_
            refine z_icmp_gt_i (q := 35) (tgt := 39) C rfl ti_199 dX4_isNonLiteral_32 (by decide) rfl (fun c32 => ?_) (fun c32 => ?_)
            · skip
              refine z_iconst (q := 40) C k_iconst_0 dX4_isNonLiteral_39 rfl ?_
              refine z_zret C E (by omega) (by omega) (by decide) dX4_isNonLiteral_40 ?_
              exact ⟨congrArg (fun z => some (Value.int z)) (zb_is0 (decide_eq_false (by omega))), rfl⟩
            · skip
              refine z_iconst (q := 36) C k_iconst_1 dX4_isNonLiteral_35 rfl ?_
              refine z_goto (tgt := 40) C dX4_isNonLiteral_36 (by decide) ?_
              refine z_zret C E (by omega) (by omega) (by decide) dX4_isNonLiteral_40 ?_
              exact ⟨congrArg (fun z => some (Value.int z)) (zb_is1 (decide_eq_true (by omega))), rfl⟩

set_option maxHeartbeats 4000000 in
set_option maxRecDepth 100000 in
theorem c_X4_isLiteral (l : Launch) (D : va_G) (g : ClassId × ClassId × ClassId) (h a n : Nat) (hn : n ≤ 40) (x : Int32) : zM l yX4_isLiteral wsX4_isLiteral ({ frames := 0, cells := 0, slots := 0, locals := 0 } : Room) D g [.ref h, .int x] [(h, .inr (4, [.ref a, .int (nI n)]))] 0 0 (fun v w1 => v = some (.int (zb (litB n x))) ∧ w1 = [(h, .inr (4, [.ref a, .int (nI n)]))]) := by
  refine z_met (cc := cX4_isLiteral) (maxL := 2) (ret := (some .boolean)) (lv := [(0, .ref h), (1, .int x)]) (by decide) rfl (Nat.le_of_ble_eq_true rfl) rfl ?_
  intro X hXD hXg hXl hnm C E
  subst hXD hXg hXl
  have C : zC X cX4_isLiteral 2 RX4 wsX4_isLiteral ({ frames := 0, cells := 0, slots := 0, locals := 0 } : Room) := C
  have hiX4 : ∀ w ∈ u_ws RX4 TX4 2, w ∈ wsX4_isLiteral := by decide +kernel
  have hf15 : Cond.fieldLink RX4 15 "RdfsRules$Terms" "literals" "I" ∈ wsX4_isLiteral := by decide +kernel
  refine z_iload_n (q := 1) C 1 rfl rfl dX4_isLiteral_0 rfl ?_
  refine z_sipush (q := 4) C k_sipush_300 dX4_isLiteral_1 rfl ?_
  refine z_icmp_lt_i (q := 7) (tgt := 23) C rfl ti_300 dX4_isLiteral_4 (by decide) rfl (fun c4 => ?_) (fun c4 => ?_)
  · skip
    refine z_iconst (q := 24) C k_iconst_0 dX4_isLiteral_23 rfl ?_
    refine z_zret C E (by omega) (by omega) (by decide) dX4_isLiteral_24 ?_
    exact ⟨congrArg (fun z => some (Value.int z)) (zb_is0 (decide_eq_false (by omega))), rfl⟩
  · skip
    refine z_iload_n (q := 8) C 1 rfl rfl dX4_isLiteral_7 rfl ?_
    refine z_sipush (q := 11) C k_sipush_300 dX4_isLiteral_8 rfl ?_
    refine z_aload_n (q := 12) C 0 rfl rfl dX4_isLiteral_11 rfl ?_
    refine z_get (q := 15) (v := .int (nI n)) C hiX4 0 1 rfl rfl (by decide) hf15 rfl dX4_isLiteral_12 rfl ?_
    refine z_iadd (q := 16) C dX4_isLiteral_15 rfl ?_
    refine z_eqi (y := nI (300 + n)) (nI_add 300 n) ?_
    refine z_icmp_ge_i (q := 19) (tgt := 23) C rfl (nI_toInt (n := 300 + n) (by omega)) dX4_isLiteral_16 (by decide) rfl (fun c16 => ?_) (fun c16 => ?_)
    · skip
      refine z_iconst (q := 24) C k_iconst_0 dX4_isLiteral_23 rfl ?_
      refine z_zret C E (by omega) (by omega) (by decide) dX4_isLiteral_24 ?_
      exact ⟨congrArg (fun z => some (Value.int z)) (zb_is0 (decide_eq_false (by omega))), rfl⟩
    · skip
      refine z_iconst (q := 20) C k_iconst_1 dX4_isLiteral_19 rfl ?_
      refine z_goto (tgt := 24) C dX4_isLiteral_20 (by decide) ?_
      refine z_zret C E (by omega) (by omega) (by decide) dX4_isLiteral_24 ?_
      exact ⟨congrArg (fun z => some (Value.int z)) (zb_is1 (decide_eq_true (by omega))), rfl⟩

set_option maxHeartbeats 4000000 in
set_option maxRecDepth 100000 in
theorem c_X4_isTerm (l : Launch) (D : va_G) (g : ClassId × ClassId × ClassId) (h a n : Nat) (hn : n ≤ 40) (x : Int32) : zM l yX4_isTerm wsX4_isTerm ({ frames := 1, cells := 0, slots := 0, locals := 21 } : Room) D g [.ref h, .int x] [(h, .inr (4, [.ref a, .int (nI n)]))] 0 0 (fun v w1 => v = some (.int (zb (plainB x || litB n x))) ∧ w1 = [(h, .inr (4, [.ref a, .int (nI n)]))]) := by
  refine z_met (cc := cX4_isTerm) (maxL := 2) (ret := (some .boolean)) (lv := [(0, .ref h), (1, .int x)]) (by decide) rfl (Nat.le_of_ble_eq_true rfl) rfl ?_
  intro X hXD hXg hXl hnm C E
  subst hXD hXg hXl
  have C : zC X cX4_isTerm 2 RX4 wsX4_isTerm ({ frames := 1, cells := 0, slots := 0, locals := 21 } : Room) := C
  refine z_aload_n (q := 1) C 0 rfl rfl dX4_isTerm_0 rfl ?_
  refine z_iload_n (q := 2) C 1 rfl rfl dX4_isTerm_1 rfl ?_
  refine z_callV (q := 5) (n := 1) (As := [.int x]) (rest := []) (wr := []) C (c_X4_isNonLiteral X.l X.D X.2.1 h a n x) gX4_isTerm_X4_isNonLiteral rfl rfl rfl (by decide +kernel) (by decide) ⟨by first | decide | omega, by first | decide | omega⟩ 0 4 rfl rfl [0] [] rfl rfl (by decide) (by decide) (by decide) rfl rfl (Nat.le_of_ble_eq_true rfl) dX4_isTerm_2 rfl (fun v w1 hp => ?_)
  obtain ⟨rfl, rfl⟩ := hp
  show zW X 2 [(h, .inr (4, [.ref a, .int (nI n)]))] _ _ 5 _ [.int (zb (plainB x))]
  refine z_if_ne_b (q := 8) (tgt := 16) C dX4_isTerm_5 (by decide) rfl (fun c5 => ?_) (fun c5 => ?_)
  · skip
    refine z_iconst (q := 17) C k_iconst_1 dX4_isTerm_16 rfl ?_
    refine z_goto (tgt := 21) C dX4_isTerm_17 (by decide) ?_
    refine z_zret C E (by omega) (by omega) (by decide) dX4_isTerm_21 ?_
    refine ⟨congrArg (fun z => some (Value.int z)) (zb_is1 ?_), rfl⟩
    simp [*]
  · skip
    refine z_aload_n (q := 9) C 0 rfl rfl dX4_isTerm_8 rfl ?_
    refine z_iload_n (q := 10) C 1 rfl rfl dX4_isTerm_9 rfl ?_
    refine z_callV (q := 13) (n := 1) (As := [.int x]) (rest := []) (wr := []) C (c_X4_isLiteral X.l X.D X.2.1 h a n hn x) gX4_isTerm_X4_isLiteral rfl rfl rfl (by decide +kernel) (by decide) ⟨by first | decide | omega, by first | decide | omega⟩ 0 4 rfl rfl [0] [] rfl rfl (by decide) (by decide) (by decide) rfl rfl (Nat.le_of_ble_eq_true rfl) dX4_isTerm_10 rfl (fun v w1 hp => ?_)
    obtain ⟨rfl, rfl⟩ := hp
    show zW X 2 [(h, .inr (4, [.ref a, .int (nI n)]))] _ _ 13 _ [.int (zb (litB n x))]
    refine z_if_eq_b (q := 16) (tgt := 20) C dX4_isTerm_13 (by decide) rfl (fun c13 => ?_) (fun c13 => ?_)
    · skip
      refine z_iconst (q := 21) C k_iconst_0 dX4_isTerm_20 rfl ?_
      refine z_zret C E (by omega) (by omega) (by decide) dX4_isTerm_21 ?_
      refine ⟨congrArg (fun z => some (Value.int z)) (zb_is0 ?_), rfl⟩
      simp [*]
    · skip
      refine z_iconst (q := 17) C k_iconst_1 dX4_isTerm_16 rfl ?_
      refine z_goto (tgt := 21) C dX4_isTerm_17 (by decide) ?_
      refine z_zret C E (by omega) (by omega) (by decide) dX4_isTerm_21 ?_
      refine ⟨congrArg (fun z => some (Value.int z)) (zb_is1 ?_), rfl⟩
      simp [*]

theorem lit_sub {n : Nat} {x : Int32} (h : 300 ≤ x.toInt ∧ x.toInt < 300 + (n : Int)) : x - nI 300 = nI (x.toInt.toNat - 300) := by
  obtain ⟨j, hj, rfl⟩ := nI_of (x := x) (by rw [Int32.lt_iff_toInt_lt]; show ¬ x.toInt < 0; omega)
  rw [nI_toInt hj] at h ⊢
  exact pk_sub (by omega)
set_option maxHeartbeats 4000000 in
set_option maxRecDepth 100000 in
theorem c_X4_typeOf (l : Launch) (D : va_G) (g : ClassId × ClassId × ClassId) (h a : Nat) (f : Nat → Int32) (n : Nat) (hn : n ≤ 40) (x : Int32) : zM l yX4_typeOf wsX4_typeOf ({ frames := 1, cells := 0, slots := 0, locals := 21 } : Room) D g [.ref h, .int x] [(h, .inr (4, [.ref a, .int (nI n)])), (a, .inl (g.1, 40, .inl f))] 0 0 (fun v w1 => v = some (.int (if litB n x then f (x.toInt.toNat - 300) else -1)) ∧ w1 = [(h, .inr (4, [.ref a, .int (nI n)])), (a, .inl (g.1, 40, .inl f))]) := by
  refine z_met (cc := cX4_typeOf) (maxL := 2) (ret := (some .int)) (lv := [(0, .ref h), (1, .int x)]) (by decide) rfl (Nat.le_of_ble_eq_true rfl) rfl ?_
  intro X hXD hXg hXl hnm C E
  subst hXD hXg hXl
  have C : zC X cX4_typeOf 2 RX4 wsX4_typeOf ({ frames := 1, cells := 0, slots := 0, locals := 21 } : Room) := C
  have hiX4 : ∀ w ∈ u_ws RX4 TX4 2, w ∈ wsX4_typeOf := by decide +kernel
  have hf9 : Cond.fieldLink RX4 9 "RdfsRules$Terms" "literalTypes" "[I" ∈ wsX4_typeOf := by decide +kernel
  refine z_aload_n (q := 1) C 0 rfl rfl dX4_typeOf_0 rfl ?_
  refine z_iload_n (q := 2) C 1 rfl rfl dX4_typeOf_1 rfl ?_
  refine z_callV (q := 5) (n := 1) (As := [.int x]) (rest := []) (wr := [(a, .inl (X.cI, 40, .inl f))]) C (c_X4_isLiteral X.l X.D X.2.1 h a n hn x) gX4_typeOf_X4_isLiteral rfl rfl rfl (by decide +kernel) (by decide) ⟨by first | decide | omega, by first | decide | omega⟩ 0 4 rfl rfl [0] [1] rfl rfl (by decide) (by decide) (by decide) rfl rfl (Nat.le_of_ble_eq_true rfl) dX4_typeOf_2 rfl (fun v w1 hp => ?_)
  obtain ⟨rfl, rfl⟩ := hp
  show zW X 2 [(a, .inl (X.cI, 40, .inl f)), (h, .inr (4, [.ref a, .int (nI n)]))] _ _ 5 _ [.int (zb (litB n x))]
  refine z_ws (ws' := [(h, .inr (4, [.ref a, .int (nI n)])), (a, .inl (X.cI, 40, .inl f))]) [1, 0] (by decide) rfl ?_
  refine z_if_eq_b (q := 8) (tgt := 21) C dX4_typeOf_5 (by decide) rfl (fun c5 => ?_) (fun c5 => ?_)
  · skip
    refine z_iconst (q := 22) C k_iconst_m1 dX4_typeOf_21 rfl ?_
    refine z_iret C E (by omega) (by omega) dX4_typeOf_22 ?_
    exact ⟨by simp [*], rfl⟩
  · skip
    refine z_aload_n (q := 9) C 0 rfl rfl dX4_typeOf_8 rfl ?_
    refine z_get (q := 12) (v := .ref a) C hiX4 0 0 rfl rfl (by decide) hf9 rfl dX4_typeOf_9 rfl ?_
    refine z_iload_n (q := 13) C 1 rfl rfl dX4_typeOf_12 rfl ?_
    refine z_sipush (q := 16) C k_sipush_300 dX4_typeOf_13 rfl ?_
    refine z_isub (q := 17) C dX4_typeOf_16 rfl ?_
    refine z_eqi (y := nI (x.toInt.toNat - 300)) (lit_sub (of_decide_eq_true c5)) ?_
    refine z_iald (q := 18) C 1 rfl (i := x.toInt.toNat - 300) (by have := of_decide_eq_true c5; omega) (by decide) dX4_typeOf_17 rfl ?_
    refine z_goto (tgt := 22) C dX4_typeOf_18 (by decide) ?_
    refine z_iret C E (by omega) (by omega) dX4_typeOf_22 ?_
    exact ⟨by simp [*], rfl⟩

set_option maxHeartbeats 4000000 in
set_option maxRecDepth 100000 in
theorem c_X4_addLiteral (l : Launch) (D : va_G) (g : ClassId × ClassId × ClassId) (h a : Nat) (f : Nat → Int32) (n : Nat) (hn : n < 40) (x : Int32) : zM l yX4_addLiteral wsX4_addLiteral ({ frames := 0, cells := 0, slots := 0, locals := 0 } : Room) D g [.ref h, .int x] [(h, .inr (4, [.ref a, .int (nI n)])), (a, .inl (g.1, 40, .inl f))] 0 0 (fun v w1 => v = some (.int (nI (300 + (n + 1) - 1))) ∧ w1 = [(h, .inr (4, [.ref a, .int (nI (n + 1))])), (a, .inl (g.1, 40, .inl (upd f n x)))]) := by
  refine z_met (cc := cX4_addLiteral) (maxL := 2) (ret := (some .int)) (lv := [(0, .ref h), (1, .int x)]) (by decide) rfl (Nat.le_of_ble_eq_true rfl) rfl ?_
  intro X hXD hXg hXl hnm C E
  subst hXD hXg hXl
  have C : zC X cX4_addLiteral 2 RX4 wsX4_addLiteral ({ frames := 0, cells := 0, slots := 0, locals := 0 } : Room) := C
  have hiX4 : ∀ w ∈ u_ws RX4 TX4 2, w ∈ wsX4_addLiteral := by decide +kernel
  have hf9 : Cond.fieldLink RX4 9 "RdfsRules$Terms" "literalTypes" "[I" ∈ wsX4_addLiteral := by decide +kernel
  have hf15 : Cond.fieldLink RX4 15 "RdfsRules$Terms" "literals" "I" ∈ wsX4_addLiteral := by decide +kernel
  refine z_aload_n (q := 1) C 0 rfl rfl dX4_addLiteral_0 rfl ?_
  refine z_get (q := 4) (v := .ref a) C hiX4 0 0 rfl rfl (by decide) hf9 rfl dX4_addLiteral_1 rfl ?_
  refine z_aload_n (q := 5) C 0 rfl rfl dX4_addLiteral_4 rfl ?_
  refine z_get (q := 8) (v := .int (nI n)) C hiX4 0 1 rfl rfl (by decide) hf15 rfl dX4_addLiteral_5 rfl ?_
  refine z_iload_n (q := 9) C 1 rfl rfl dX4_addLiteral_8 rfl ?_
  refine z_iast (q := 10) (ws' := [(h, .inr (4, [.ref a, .int (nI n)])), (a, .inl (X.cI, 40, .inl (upd f n x)))]) C 1 rfl (i := n) (by omega) (by decide) dX4_addLiteral_9 rfl rfl ?_
  refine z_aload_n (q := 11) C 0 rfl rfl dX4_addLiteral_10 rfl ?_
  refine z_dup (q := 12) C rfl dX4_addLiteral_11 rfl ?_
  refine z_get (q := 15) (v := .int (nI n)) C hiX4 0 1 rfl rfl (by decide) hf15 rfl dX4_addLiteral_12 rfl ?_
  refine z_iconst (q := 16) C k_iconst_1 dX4_addLiteral_15 rfl ?_
  refine z_iadd (q := 17) C dX4_addLiteral_16 rfl ?_
  refine z_eqi (y := nI (n + 1)) (nI_add n 1) ?_
  refine z_put (q := 20) (ws' := [(h, .inr (4, [.ref a, .int (nI (n + 1))])), (a, .inl (X.cI, 40, .inl (upd f n x)))]) C hiX4 tyX4_ok nmX4 0 1 rfl rfl (by decide) hf15 rfl rfl rfl (Nat.le_of_ble_eq_true rfl) dX4_addLiteral_17 rfl rfl ?_
  refine z_sipush (q := 23) C k_sipush_300 dX4_addLiteral_20 rfl ?_
  refine z_aload_n (q := 24) C 0 rfl rfl dX4_addLiteral_23 rfl ?_
  refine z_get (q := 27) (v := .int (nI (n + 1))) C hiX4 0 1 rfl rfl (by decide) hf15 rfl dX4_addLiteral_24 rfl ?_
  refine z_iadd (q := 28) C dX4_addLiteral_27 rfl ?_
  refine z_eqi (y := nI (300 + (n + 1))) (nI_add 300 (n + 1)) ?_
  refine z_iconst (q := 29) C k_iconst_1 dX4_addLiteral_28 rfl ?_
  refine z_isub (q := 30) C dX4_addLiteral_29 rfl ?_
  refine z_eqi (y := nI ((300 + (n + 1)) - 1)) (pk_sub (a := 300 + (n + 1)) (b := 1) (by omega)) ?_
  refine z_iret C E (by omega) (by omega) dX4_addLiteral_30 ?_
  exact ⟨rfl, rfl⟩
end
section
/-! Rows: the table of slots -/
def hsh (s p o : Int32) : Nat := (((s * nI 613 + p) * nI 601 + o) * (-1640531527 : Int32)).toBitVec.toNat / 2 ^ 22
theorem hsh_lt (s p o : Int32) : hsh s p o < 1024 := by
  unfold hsh
  have := (((s * nI 613 + p) * nI 601 + o) * (-1640531527 : Int32)).toBitVec.isLt
  omega
theorem nI_bv {x : Int32} {n : Nat} (h : x.toBitVec.toNat = n) : x = nI n := by
  have hn : n < 2 ^ 32 := by rw [← h]; exact x.toBitVec.isLt
  have h2 : (nI n).toBitVec.toNat = n := pk_tn hn
  exact Int32.toBitVec_inj.mp (BitVec.eq_of_toNat_eq (by rw [h, h2]))
theorem hsh_eq (s p o : Int32) : ((((s * nI 613 + p) * nI 601 + o) * (-1640531527 : Int32)).toUInt32 >>> ((nI 22).toUInt32 &&& Int32.toUInt32 31)).toInt32 = nI (hsh s p o) :=
  nI_bv (pk_ushr _ _ 22 (by decide))
theorem and1023 (h d : Nat) : nI ((h + d) % 1024 + 1) &&& nI 1023 = nI ((h + (d + 1)) % 1024) := by
  rw [pk_andN (k := 10) (by omega) (by decide)]
  congr 1
  omega
theorem nI_nm1 {j : Nat} (h : j < 2 ^ 31) : ¬ nI j = (-1) := fun e => by
  have := congrArg Int32.toInt e
  rw [nI_toInt h] at this
  have h2 : ((-1) : Int32).toInt = -1 := by decide
  omega
/-- the d-th slot that is looked at holds another fact's row; ends the search -/
def slotGo (F : Nat → Nat → Int32) (s p o : Int32) (d : Nat) : Prop := ∃ j, j < 600 ∧ F 7 ((hsh s p o + d) % 1024) = nI j ∧ ¬ (F 0 j = s ∧ F 1 j = p ∧ F 2 j = o)
def slotEnd (F : Nat → Nat → Int32) (s p o : Int32) (d : Nat) : Prop := F 7 ((hsh s p o + d) % 1024) = (-1) ∨ ∃ j, j < 600 ∧ F 7 ((hsh s p o + d) % 1024) = nI j ∧ F 0 j = s ∧ F 1 j = p ∧ F 2 j = o

set_option maxHeartbeats 4000000 in
set_option maxRecDepth 100000 in
theorem l_X3_slotOf {X : zX} (h : Nat) (a : Nat → Nat) (F : Nat → Nat → Int32) (n : Nat) (ov am : Int32) (s p o : Int32) (hT : ∀ k, k < 1024 → F 7 k = (-1) ∨ ∃ j, j < 600 ∧ F 7 k = nI j) (hFr : ∃ d, d < 1024 ∧ F 7 ((hsh s p o + d) % 1024) = (-1)) (C : zC X cX3_slotOf 7 RX3 wsX3_slotOf ({ frames := 0, cells := 0, slots := 0, locals := 0 } : Room)) (E : zE X (some .int) 0 0 (fun v w1 => ∃ d, d < 1024 ∧ (∀ e, e < d → slotGo F s p o e) ∧ slotEnd F s p o d ∧ v = some (.int (nI ((hsh s p o + d) % 1024))) ∧ w1 = [(h, .inr (3, [.ref (a 0), .ref (a 1), .ref (a 2), .ref (a 3), .ref (a 4), .ref (a 5), .ref (a 6), .ref (a 7), .ref (a 8), .int (nI n), .int ov, .int am])), (a 0, .inl (X.cI, 600, .inl (F 0))), (a 1, .inl (X.cI, 600, .inl (F 1))), (a 2, .inl (X.cI, 600, .inl (F 2))), (a 3, .inl (X.cI, 600, .inl (F 3))), (a 4, .inl (X.cI, 600, .inl (F 4))), (a 5, .inl (X.cI, 600, .inl (F 5))), (a 6, .inl (X.cI, 600, .inl (F 6))), (a 7, .inl (X.cI, 1024, .inl (F 7))), (a 8, .inl (X.cZ, 600, .inl (F 8)))])) : ∀ (k : Nat) (d : Nat), d ≤ 1024 → 1024 < d + k → (∀ e, e < d → slotGo F s p o e) → zW X 7 [(h, .inr (3, [.ref (a 0), .ref (a 1), .ref (a 2), .ref (a 3), .ref (a 4), .ref (a 5), .ref (a 6), .ref (a 7), .ref (a 8), .int (nI n), .int ov, .int am])), (a 0, .inl (X.cI, 600, .inl (F 0))), (a 1, .inl (X.cI, 600, .inl (F 1))), (a 2, .inl (X.cI, 600, .inl (F 2))), (a 3, .inl (X.cI, 600, .inl (F 3))), (a 4, .inl (X.cI, 600, .inl (F 4))), (a 5, .inl (X.cI, 600, .inl (F 5))), (a 6, .inl (X.cI, 600, .inl (F 6))), (a 7, .inl (X.cI, 1024, .inl (F 7))), (a 8, .inl (X.cZ, 600, .inl (F 8)))] 0 0 24 [(0, .ref h), (1, .int s), (2, .int p), (3, .int o), (4, .int (nI ((hsh s p o + d) % 1024))), (5, .int (nI d))] [] := by
  have hiX3 : ∀ w ∈ u_ws RX3 TX3 12, w ∈ wsX3_slotOf := by decide +kernel
  have hf9 : Cond.fieldLink RX3 9 "RdfsRules$Rows" "subjects" "[I" ∈ wsX3_slotOf := by decide +kernel
  have hf15 : Cond.fieldLink RX3 15 "RdfsRules$Rows" "properties" "[I" ∈ wsX3_slotOf := by decide +kernel
  have hf18 : Cond.fieldLink RX3 18 "RdfsRules$Rows" "objects" "[I" ∈ wsX3_slotOf := by decide +kernel
  have hf33 : Cond.fieldLink RX3 33 "RdfsRules$Rows" "rowAtSlot" "[I" ∈ wsX3_slotOf := by decide +kernel
  intro k
  induction k with
  | zero =>
    intro d hd hk hgo
    exfalso
    omega
  | succ k ih =>
    intro d hd hk hgo
    refine z_iload (q := 26) C 5 rfl dX3_slotOf_24 rfl ?_
    refine z_sipush (q := 29) C k_sipush_1024 dX3_slotOf_26 rfl ?_
    refine z_icmp_ge_n (q := 32) (tgt := 99) C (by omega) (by omega) dX3_slotOf_29 (by decide) rfl (fun c29 => ?_) (fun c29 => ?_)
    · skip
      obtain ⟨d0, hd1, hd2⟩ := hFr
      obtain ⟨j, hj, ej, -⟩ := hgo d0 (by omega)
      exact absurd (ej.symm.trans hd2) (nI_nm1 (by omega))
    · skip
      refine z_aload_n (q := 33) C 0 rfl rfl dX3_slotOf_32 rfl ?_
      refine z_get (q := 36) (v := .ref (a 7)) C hiX3 0 7 rfl rfl (by decide) hf33 rfl dX3_slotOf_33 rfl ?_
      refine z_iload (q := 38) C 4 rfl dX3_slotOf_36 rfl ?_
      refine z_iald (q := 39) C 8 rfl (i := (hsh s p o + d) % 1024) (by omega) (by decide) dX3_slotOf_38 rfl ?_
      refine z_istore (q := 41) (lv' := [(6, .int ((F 7) ((hsh s p o + d) % 1024))), (0, .ref h), (1, .int s), (2, .int p), (3, .int o), (4, .int (nI ((hsh s p o + d) % 1024))), (5, .int (nI d))]) C dX3_slotOf_39 rfl (by decide) rfl ?_
      refine z_iload (q := 43) C 0 rfl dX3_slotOf_41 rfl ?_
      refine z_iconst (q := 44) C k_iconst_m1 dX3_slotOf_43 rfl ?_
      refine z_icmp_eq (q := 47) (tgt := 80) C dX3_slotOf_44 (by decide) rfl (fun c44 => ?_) (fun c44 => ?_)
      · skip
        refine z_iload (q := 82) C 5 rfl dX3_slotOf_80 rfl ?_
        refine z_iret C E (by omega) (by omega) dX3_slotOf_82 ?_
        exact ⟨d, c29, hgo, Or.inl c44, rfl, rfl⟩
      · skip
        obtain ⟨j, hj, ej⟩ := (hT _ (by omega)).resolve_left c44
        rw [ej]
        refine z_aload_n (q := 48) C 1 rfl rfl dX3_slotOf_47 rfl ?_
        refine z_get (q := 51) (v := .ref (a 0)) C hiX3 0 0 rfl rfl (by decide) hf9 rfl dX3_slotOf_48 rfl ?_
        refine z_iload (q := 53) C 0 rfl dX3_slotOf_51 rfl ?_
        refine z_iald (q := 54) C 1 rfl (i := j) (by omega) (by decide) dX3_slotOf_53 rfl ?_
        refine z_iload_n (q := 55) C 2 rfl rfl dX3_slotOf_54 rfl ?_
        refine z_icmp_ne (q := 58) (tgt := 83) C dX3_slotOf_55 (by decide) rfl (fun c55 => ?_) (fun c55 => ?_)
        · skip
          refine z_iload (q := 85) C 5 rfl dX3_slotOf_83 rfl ?_
          refine z_iconst (q := 86) C k_iconst_1 dX3_slotOf_85 rfl ?_
          refine z_iadd (q := 87) C dX3_slotOf_86 rfl ?_
          refine z_eqi (y := nI (((hsh s p o + d) % 1024) + 1)) (nI_add ((hsh s p o + d) % 1024) 1) ?_
          refine z_sipush (q := 90) C k_sipush_1023 dX3_slotOf_87 rfl ?_
          refine z_iand (q := 91) C dX3_slotOf_90 rfl ?_
          refine z_eqi (y := nI ((hsh s p o + (d + 1)) % 1024)) (and1023 _ _) ?_
          refine z_istore (q := 93) (lv' := [(4, .int (nI ((hsh s p o + (d + 1)) % 1024))), (6, .int (nI j)), (0, .ref h), (1, .int s), (2, .int p), (3, .int o), (5, .int (nI d))]) C dX3_slotOf_91 rfl (by decide) rfl ?_
          refine z_iinc (q := 96) (v := nI (d + 1)) (lv' := [(5, .int (nI (d + 1))), (4, .int (nI ((hsh s p o + (d + 1)) % 1024))), (6, .int (nI j)), (0, .ref h), (1, .int s), (2, .int p), (3, .int o)]) C 6 dX3_slotOf_93 rfl rfl (k_inc1 d) (by decide) rfl ?_
          refine z_goto (tgt := 24) C dX3_slotOf_96 (by decide) ?_
          refine z_lv [3, 4, 5, 6, 1, 0] rfl ?_
          exact ih (d + 1) (by omega) (by omega) (fun e he => by rcases Nat.lt_succ_iff_lt_or_eq.mp he with h1 | h1; exact hgo e h1; exact h1 ▸ ⟨j, hj, ej, fun z => c55 z.1⟩)
        · skip
          refine z_aload_n (q := 59) C 1 rfl rfl dX3_slotOf_58 rfl ?_
          refine z_get (q := 62) (v := .ref (a 1)) C hiX3 0 1 rfl rfl (by decide) hf15 rfl dX3_slotOf_59 rfl ?_
          refine z_iload (q := 64) C 0 rfl dX3_slotOf_62 rfl ?_
          refine z_iald (q := 65) C 2 rfl (i := j) (by omega) (by decide) dX3_slotOf_64 rfl ?_
          refine z_iload_n (q := 66) C 3 rfl rfl dX3_slotOf_65 rfl ?_
          refine z_icmp_ne (q := 69) (tgt := 83) C dX3_slotOf_66 (by decide) rfl (fun c66 => ?_) (fun c66 => ?_)
          · skip
            refine z_iload (q := 85) C 5 rfl dX3_slotOf_83 rfl ?_
            refine z_iconst (q := 86) C k_iconst_1 dX3_slotOf_85 rfl ?_
            refine z_iadd (q := 87) C dX3_slotOf_86 rfl ?_
            refine z_eqi (y := nI (((hsh s p o + d) % 1024) + 1)) (nI_add ((hsh s p o + d) % 1024) 1) ?_
            refine z_sipush (q := 90) C k_sipush_1023 dX3_slotOf_87 rfl ?_
            refine z_iand (q := 91) C dX3_slotOf_90 rfl ?_
            refine z_eqi (y := nI ((hsh s p o + (d + 1)) % 1024)) (and1023 _ _) ?_
            refine z_istore (q := 93) (lv' := [(4, .int (nI ((hsh s p o + (d + 1)) % 1024))), (6, .int (nI j)), (0, .ref h), (1, .int s), (2, .int p), (3, .int o), (5, .int (nI d))]) C dX3_slotOf_91 rfl (by decide) rfl ?_
            refine z_iinc (q := 96) (v := nI (d + 1)) (lv' := [(5, .int (nI (d + 1))), (4, .int (nI ((hsh s p o + (d + 1)) % 1024))), (6, .int (nI j)), (0, .ref h), (1, .int s), (2, .int p), (3, .int o)]) C 6 dX3_slotOf_93 rfl rfl (k_inc1 d) (by decide) rfl ?_
            refine z_goto (tgt := 24) C dX3_slotOf_96 (by decide) ?_
            refine z_lv [3, 4, 5, 6, 1, 0] rfl ?_
            exact ih (d + 1) (by omega) (by omega) (fun e he => by rcases Nat.lt_succ_iff_lt_or_eq.mp he with h1 | h1; exact hgo e h1; exact h1 ▸ ⟨j, hj, ej, fun z => c66 z.2.1⟩)
          · skip
            refine z_aload_n (q := 70) C 1 rfl rfl dX3_slotOf_69 rfl ?_
            refine z_get (q := 73) (v := .ref (a 2)) C hiX3 0 2 rfl rfl (by decide) hf18 rfl dX3_slotOf_70 rfl ?_
            refine z_iload (q := 75) C 0 rfl dX3_slotOf_73 rfl ?_
            refine z_iald (q := 76) C 3 rfl (i := j) (by omega) (by decide) dX3_slotOf_75 rfl ?_
            refine z_iload_n (q := 77) C 4 rfl rfl dX3_slotOf_76 rfl ?_
            refine z_icmp_ne (q := 80) (tgt := 83) C dX3_slotOf_77 (by decide) rfl (fun c77 => ?_) (fun c77 => ?_)
            · skip
              refine z_iload (q := 85) C 5 rfl dX3_slotOf_83 rfl ?_
              refine z_iconst (q := 86) C k_iconst_1 dX3_slotOf_85 rfl ?_
              refine z_iadd (q := 87) C dX3_slotOf_86 rfl ?_
              refine z_eqi (y := nI (((hsh s p o + d) % 1024) + 1)) (nI_add ((hsh s p o + d) % 1024) 1) ?_
              refine z_sipush (q := 90) C k_sipush_1023 dX3_slotOf_87 rfl ?_
              refine z_iand (q := 91) C dX3_slotOf_90 rfl ?_
              refine z_eqi (y := nI ((hsh s p o + (d + 1)) % 1024)) (and1023 _ _) ?_
              refine z_istore (q := 93) (lv' := [(4, .int (nI ((hsh s p o + (d + 1)) % 1024))), (6, .int (nI j)), (0, .ref h), (1, .int s), (2, .int p), (3, .int o), (5, .int (nI d))]) C dX3_slotOf_91 rfl (by decide) rfl ?_
              refine z_iinc (q := 96) (v := nI (d + 1)) (lv' := [(5, .int (nI (d + 1))), (4, .int (nI ((hsh s p o + (d + 1)) % 1024))), (6, .int (nI j)), (0, .ref h), (1, .int s), (2, .int p), (3, .int o)]) C 6 dX3_slotOf_93 rfl rfl (k_inc1 d) (by decide) rfl ?_
              refine z_goto (tgt := 24) C dX3_slotOf_96 (by decide) ?_
              refine z_lv [3, 4, 5, 6, 1, 0] rfl ?_
              exact ih (d + 1) (by omega) (by omega) (fun e he => by rcases Nat.lt_succ_iff_lt_or_eq.mp he with h1 | h1; exact hgo e h1; exact h1 ▸ ⟨j, hj, ej, fun z => c77 z.2.2⟩)
            · skip
              refine z_iload (q := 82) C 5 rfl dX3_slotOf_80 rfl ?_
              refine z_iret C E (by omega) (by omega) dX3_slotOf_82 ?_
              exact ⟨d, c29, hgo, Or.inr ⟨j, hj, ej, c55, c66, c77⟩, rfl, rfl⟩

set_option maxHeartbeats 4000000 in
set_option maxRecDepth 100000 in
theorem c_X3_slotOf (l : Launch) (D : va_G) (g : ClassId × ClassId × ClassId) (h : Nat) (a : Nat → Nat) (F : Nat → Nat → Int32) (n : Nat) (ov am : Int32) (s p o : Int32) (hT : ∀ k, k < 1024 → F 7 k = (-1) ∨ ∃ j, j < 600 ∧ F 7 k = nI j) (hFr : ∃ d, d < 1024 ∧ F 7 ((hsh s p o + d) % 1024) = (-1)) : zM l yX3_slotOf wsX3_slotOf ({ frames := 0, cells := 0, slots := 0, locals := 0 } : Room) D g [.ref h, .int s, .int p, .int o] [(h, .inr (3, [.ref (a 0), .ref (a 1), .ref (a 2), .ref (a 3), .ref (a 4), .ref (a 5), .ref (a 6), .ref (a 7), .ref (a 8), .int (nI n), .int ov, .int am])), (a 0, .inl (g.1, 600, .inl (F 0))), (a 1, .inl (g.1, 600, .inl (F 1))), (a 2, .inl (g.1, 600, .inl (F 2))), (a 3, .inl (g.1, 600, .inl (F 3))), (a 4, .inl (g.1, 600, .inl (F 4))), (a 5, .inl (g.1, 600, .inl (F 5))), (a 6, .inl (g.1, 600, .inl (F 6))), (a 7, .inl (g.1, 1024, .inl (F 7))), (a 8, .inl (g.2.1, 600, .inl (F 8)))] 0 0 (fun v w1 => ∃ d, d < 1024 ∧ (∀ e, e < d → slotGo F s p o e) ∧ slotEnd F s p o d ∧ v = some (.int (nI ((hsh s p o + d) % 1024))) ∧ w1 = [(h, .inr (3, [.ref (a 0), .ref (a 1), .ref (a 2), .ref (a 3), .ref (a 4), .ref (a 5), .ref (a 6), .ref (a 7), .ref (a 8), .int (nI n), .int ov, .int am])), (a 0, .inl (g.1, 600, .inl (F 0))), (a 1, .inl (g.1, 600, .inl (F 1))), (a 2, .inl (g.1, 600, .inl (F 2))), (a 3, .inl (g.1, 600, .inl (F 3))), (a 4, .inl (g.1, 600, .inl (F 4))), (a 5, .inl (g.1, 600, .inl (F 5))), (a 6, .inl (g.1, 600, .inl (F 6))), (a 7, .inl (g.1, 1024, .inl (F 7))), (a 8, .inl (g.2.1, 600, .inl (F 8)))]) := by
  refine z_met (cc := cX3_slotOf) (maxL := 7) (ret := (some .int)) (lv := [(0, .ref h), (1, .int s), (2, .int p), (3, .int o)]) (by decide) rfl (Nat.le_of_ble_eq_true rfl) rfl ?_
  intro X hXD hXg hXl hnm C E
  subst hXD hXg hXl
  have C : zC X cX3_slotOf 7 RX3 wsX3_slotOf ({ frames := 0, cells := 0, slots := 0, locals := 0 } : Room) := C
  have hc61 : Cond.constant RX3 61 (-1640531527) ∈ wsX3_slotOf := by decide +kernel
  refine z_iload_n (q := 1) C 1 rfl rfl dX3_slotOf_0 rfl ?_
  refine z_sipush (q := 4) C k_sipush_613 dX3_slotOf_1 rfl ?_
  refine z_imul (q := 5) C dX3_slotOf_4 rfl ?_
  refine z_iload_n (q := 6) C 2 rfl rfl dX3_slotOf_5 rfl ?_
  refine z_iadd (q := 7) C dX3_slotOf_6 rfl ?_
  refine z_sipush (q := 10) C k_sipush_601 dX3_slotOf_7 rfl ?_
  refine z_imul (q := 11) C dX3_slotOf_10 rfl ?_
  refine z_iload_n (q := 12) C 3 rfl rfl dX3_slotOf_11 rfl ?_
  refine z_iadd (q := 13) C dX3_slotOf_12 rfl ?_
  refine z_ldc (q := 15) C hc61 dX3_slotOf_13 rfl ?_
  refine z_imul (q := 16) C dX3_slotOf_15 rfl ?_
  refine z_bipush (q := 18) C k_bipush_22 dX3_slotOf_16 rfl ?_
  refine z_iushr (q := 19) (v := ((((((s * (nI 613)) + p) * (nI 601)) + o) * (-1640531527 : Int32)).toUInt32 >>> ((nI 22).toUInt32 &&& Int32.toUInt32 31)).toInt32) C rfl dX3_slotOf_18 rfl ?_
  refine z_eqi (y := nI (hsh s p o)) (hsh_eq s p o) ?_
  refine z_eqi (y := nI ((hsh s p o + 0) % 1024)) (by rw [Nat.add_zero, Nat.mod_eq_of_lt (hsh_lt s p o)]) ?_
  refine z_istore (q := 21) (lv' := [(4, .int (nI ((hsh s p o + 0) % 1024))), (0, .ref h), (1, .int s), (2, .int p), (3, .int o)]) C dX3_slotOf_19 rfl (by decide) rfl ?_
  refine z_iconst (q := 22) C k_iconst_0 dX3_slotOf_21 rfl ?_
  refine z_istore (q := 24) (lv' := [(5, .int (nI 0)), (4, .int (nI ((hsh s p o + 0) % 1024))), (0, .ref h), (1, .int s), (2, .int p), (3, .int o)]) C dX3_slotOf_22 rfl (by decide) rfl ?_
  refine z_lv [2, 3, 4, 5, 1, 0] rfl ?_
  exact l_X3_slotOf h a F n ov am s p o hT hFr C E 1025 0 (by omega) (by omega) (fun e he => absurd he (Nat.not_lt_zero e))
end
section
/-! rows as lists; the table of slots, by itself -/
abbrev Row : Type := Nat → Int32
def mkRow (s p o r f c d : Int32) : Row := fun j => match j with
  | 0 => s
  | 1 => p
  | 2 => o
  | 3 => r
  | 4 => f
  | 5 => c
  | _ => d
def r0 : Row := fun _ => 0
abbrev RSt : Type := List Row × Bool
def hasF (L : List Row) (s p o : Int32) : Bool := L.any (fun r => r 0 == s && (r 1 == p && r 2 == o))
def addR (S : RSt) (r : Row) : RSt := if S.2 = true then S else if hasF S.1 (r 0) (r 1) (r 2) = true then S else if S.1.length = 600 then (S.1, true) else (S.1 ++ [r], false)
theorem getD_lt {L : List Row} {i : Nat} (h : i < L.length) : L.getD i r0 = L[i] := by simp [List.getD_eq_getElem?_getD, h]
theorem getD_app1 {L : List Row} {r : Row} {i : Nat} (h : i < L.length) : (L ++ [r]).getD i r0 = L.getD i r0 := by
  simp [List.getD_eq_getElem?_getD, List.getElem?_append_left h]
theorem getD_app2 {L : List Row} {r : Row} : (L ++ [r]).getD L.length r0 = r := by
  simp [List.getD_eq_getElem?_getD]
theorem hasF_iff {L : List Row} {s p o : Int32} : hasF L s p o = true ↔ ∃ i, i < L.length ∧ L.getD i r0 0 = s ∧ L.getD i r0 1 = p ∧ L.getD i r0 2 = o := by
  unfold hasF
  rw [List.any_eq_true]
  constructor
  · rintro ⟨r, hr, h⟩
    obtain ⟨i, hi, rfl⟩ := List.mem_iff_getElem.mp hr
    simp only [Bool.and_eq_true, beq_iff_eq] at h
    exact ⟨i, hi, by rw [getD_lt hi]; exact h.1, by rw [getD_lt hi]; exact h.2.1, by rw [getD_lt hi]; exact h.2.2⟩
  · rintro ⟨i, hi, h1, h2, h3⟩
    rw [getD_lt hi] at h1 h2 h3
    exact ⟨L[i], List.getElem_mem hi, by simp only [Bool.and_eq_true, beq_iff_eq]; exact ⟨h1, h2, h3⟩⟩
theorem pigeon : ∀ (m n : Nat) (f : Nat → Nat), (∀ i, i < m → f i < n) → (∀ i j, i < m → j < m → f i = f j → i = j) → m ≤ n := by
  intro m
  induction m with
  | zero => intro n f _ _; exact Nat.zero_le n
  | succ m ih =>
    intro n f h1 h2
    have hm := h1 m (Nat.lt_succ_self m)
    obtain ⟨n', rfl⟩ : ∃ n', n = n' + 1 := ⟨n - 1, by omega⟩
    have := ih n' (fun i => if f i = n' then f m else f i) (fun i hi => by
        show (if f i = n' then f m else f i) < n'
        have a := h1 i (by omega)
        split
        · have : f m ≠ n' := fun e => by have := h2 i m (by omega) (by omega) (by omega); omega
          omega
        · omega) (fun i j hi hj e => by
        have e : (if f i = n' then f m else f i) = (if f j = n' then f m else f j) := e
        split at e <;> split at e
        · exact h2 i j (by omega) (by omega) (by omega)
        · have := h2 m j (by omega) (by omega) e; omega
        · have := h2 i m (by omega) (by omega) e; omega
        · exact h2 i j (by omega) (by omega) e)
    omega
def tabOK (F : Nat → Nat → Int32) (n : Nat) : Prop :=
  (∀ k, k < 1024 → F 7 k = (-1) ∨ ∃ j, j < n ∧ F 7 k = nI j) ∧
  (∀ k k', k < 1024 → k' < 1024 → F 7 k = F 7 k' → ¬ F 7 k = (-1) → k = k') ∧
  (∀ j, j < n → ∃ d, d < 1024 ∧ F 7 ((hsh (F 0 j) (F 1 j) (F 2 j) + d) % 1024) = nI j ∧ ∀ e, e < d → ¬ F 7 ((hsh (F 0 j) (F 1 j) (F 2 j) + e) % 1024) = (-1)) ∧
  (∀ i j, i < n → j < n → F 0 i = F 0 j → F 1 i = F 1 j → F 2 i = F 2 j → i = j)
def rowsRep (F : Nat → Nat → Int32) (n : Nat) (ov : Bool) (S : RSt) : Prop :=
  S.1.length = n ∧ n ≤ 600 ∧ S.2 = ov ∧ (ov = true → n = 600) ∧ (∀ i j, i < n → j < 7 → F j i = S.1.getD i r0 j) ∧ tabOK F n
theorem tabOK.free {F : Nat → Nat → Int32} {n : Nat} (h : tabOK F n) (hn : n ≤ 600) (b : Nat) : ∃ d, d < 1024 ∧ F 7 ((b + d) % 1024) = (-1) := by
  refine Classical.byContradiction fun hno => ?_
  have occ : ∀ k, k < 1024 → ∃ j, j < n ∧ F 7 k = nI j := fun k hk => by
    rcases h.1 k hk with h1 | h1
    · refine absurd ⟨(k + 1024 - b % 1024) % 1024, by omega, ?_⟩ hno
      rw [show (b + (k + 1024 - b % 1024) % 1024) % 1024 = k by omega]
      exact h1
    · exact h1
  have := pigeon 1024 n (fun k => (F 7 k).toNatClampNeg) (fun k hk => by
      obtain ⟨j, hj, e⟩ := occ k hk
      show (F 7 k).toNatClampNeg < n
      rw [e, nI_clamp (by omega)]
      exact hj) (fun i j hi hj e => by
      obtain ⟨x, hx, ex⟩ := occ i hi
      obtain ⟨y, hy, ey⟩ := occ j hj
      have e : (F 7 i).toNatClampNeg = (F 7 j).toNatClampNeg := e
      rw [ex, ey, nI_clamp (by omega), nI_clamp (by omega)] at e
      exact h.2.1 i j hi hj (by rw [ex, ey, e]) (by rw [ex]; exact nI_nm1 (by omega)))
  omega
theorem tabOK.bd {F : Nat → Nat → Int32} {n : Nat} (h : tabOK F n) (hn : n ≤ 600) : ∀ k, k < 1024 → F 7 k = (-1) ∨ ∃ j, j < 600 ∧ F 7 k = nI j := fun k hk => (h.1 k hk).imp id (fun ⟨j, h1, h2⟩ => ⟨j, by omega, h2⟩)
theorem tabOK.none {F : Nat → Nat → Int32} {n d : Nat} {s p o : Int32} (h : tabOK F n) (hn : n ≤ 600) (hgo : ∀ e, e < d → slotGo F s p o e) (hd : F 7 ((hsh s p o + d) % 1024) = (-1)) : ∀ j, j < n → ¬ (F 0 j = s ∧ F 1 j = p ∧ F 2 j = o) := by
  rintro j hj ⟨rfl, rfl, rfl⟩
  obtain ⟨dj, h1, h2, h3⟩ := h.2.2.1 j hj
  rcases Nat.lt_trichotomy d dj with c | c | c
  · exact h3 d c hd
  · subst c
    exact nI_nm1 (by omega) (h2.symm.trans hd)
  · obtain ⟨i, hi, e, hne⟩ := hgo dj c
    have : i = j := (nI_eq (by omega) (by omega)).mp (e.symm.trans h2)
    subst this
    exact hne ⟨rfl, rfl, rfl⟩
theorem tabOK.some {F : Nat → Nat → Int32} {n k j : Nat} (h : tabOK F n) (hn : n ≤ 600) (hk : k < 1024) (hj : j < 600) (e : F 7 k = nI j) : j < n := by
  rcases h.1 k hk with h1 | ⟨i, hi, h1⟩
  · exact absurd (e.symm.trans h1) (nI_nm1 (by omega))
  · have : i = j := (nI_eq (by omega) (by omega)).mp (h1.symm.trans e)
    omega
theorem rowsRep.has {F : Nat → Nat → Int32} {n : Nat} {ov : Bool} {S : RSt} (h : rowsRep F n ov S) {s p o : Int32} : hasF S.1 s p o = true ↔ ∃ j, j < n ∧ F 0 j = s ∧ F 1 j = p ∧ F 2 j = o := by
  obtain ⟨h1, h2, h3, h4, h5, h6⟩ := h
  rw [hasF_iff, h1]
  exact ⟨fun ⟨i, a, b, c, d⟩ => ⟨i, a, by rw [h5 i 0 a (by omega)]; exact b, by rw [h5 i 1 a (by omega)]; exact c, by rw [h5 i 2 a (by omega)]; exact d⟩,
    fun ⟨i, a, b, c, d⟩ => ⟨i, a, by rw [← h5 i 0 a (by omega)]; exact b, by rw [← h5 i 1 a (by omega)]; exact c, by rw [← h5 i 2 a (by omega)]; exact d⟩⟩
/-- the arrays behind an addition at the slot k -/
def addF (F : Nat → Nat → Int32) (n k : Nat) (s p o r f c d : Int32) : Nat → Nat → Int32 := fun j => match j with
  | 0 => upd (F 0) n s
  | 1 => upd (F 1) n p
  | 2 => upd (F 2) n o
  | 3 => upd (F 3) n r
  | 4 => upd (F 4) n f
  | 5 => upd (F 5) n c
  | 6 => upd (F 6) n d
  | 7 => upd (F 7) k (nI n)
  | m => F m
theorem tabOK.add {F : Nat → Nat → Int32} {n d0 : Nat} {s p o r f c d : Int32} (h : tabOK F n) (hn : n < 600) (hd0 : d0 < 1024) (hgo : ∀ e, e < d0 → slotGo F s p o e) (hd : F 7 ((hsh s p o + d0) % 1024) = (-1)) : tabOK (addF F n ((hsh s p o + d0) % 1024) s p o r f c d) (n + 1) := by
  have hno := h.none (by omega) hgo hd
  obtain ⟨T1, T2, T3, T4⟩ := h
  have u7 : ∀ q, addF F n ((hsh s p o + d0) % 1024) s p o r f c d 7 q = if q = (hsh s p o + d0) % 1024 then nI n else F 7 q := fun q => rfl
  have u0 : ∀ q, addF F n ((hsh s p o + d0) % 1024) s p o r f c d 0 q = if q = n then s else F 0 q := fun q => rfl
  have u1 : ∀ q, addF F n ((hsh s p o + d0) % 1024) s p o r f c d 1 q = if q = n then p else F 1 q := fun q => rfl
  have u2 : ∀ q, addF F n ((hsh s p o + d0) % 1024) s p o r f c d 2 q = if q = n then o else F 2 q := fun q => rfl
  generalize addF F n ((hsh s p o + d0) % 1024) s p o r f c d = G at *
  refine ⟨?_, ?_, ?_, ?_⟩
  · intro q hq
    rw [u7]
    split
    · exact Or.inr ⟨n, by omega, rfl⟩
    · exact (T1 q hq).imp id (fun ⟨j, a, b⟩ => ⟨j, by omega, b⟩)
  · intro q q' hq hq' e hne
    rw [u7, u7] at e
    rw [u7] at hne
    split at e <;> split at e
    · omega
    · rename_i a b
      rcases T1 q' hq' with h1 | ⟨j, hj, h1⟩
      · rw [h1] at e; exact absurd e (nI_nm1 (by omega))
      · rw [h1] at e; have := (nI_eq (by omega) (by omega)).mp e; omega
    · rename_i a b
      rcases T1 q hq with h1 | ⟨j, hj, h1⟩
      · rw [h1] at e; exact absurd e.symm (nI_nm1 (by omega))
      · rw [h1] at e; have := (nI_eq (by omega) (by omega)).mp e; omega
    · rename_i a b
      rw [if_neg a] at hne
      exact T2 q q' hq hq' e hne
  · intro j hj
    rw [u0, u1, u2]
    rcases Nat.lt_succ_iff_lt_or_eq.mp hj with hj | rfl
    · rw [if_neg (by omega), if_neg (by omega), if_neg (by omega)]
      obtain ⟨dj, a1, a2, a3⟩ := T3 j hj
      refine ⟨dj, a1, ?_, fun e he => ?_⟩
      · rw [u7, if_neg]
        · exact a2
        · intro e
          rw [e, hd] at a2
          exact nI_nm1 (by omega) a2.symm
      · rw [u7]
        split
        · exact nI_nm1 (by omega)
        · exact a3 e he
    · rw [if_pos rfl, if_pos rfl, if_pos rfl]
      refine ⟨d0, hd0, ?_, fun e he => ?_⟩
      · rw [u7, if_pos rfl]
      · rw [u7]
        split
        · exact nI_nm1 (by omega)
        · obtain ⟨i, hi, ei, -⟩ := hgo e he
          rw [ei]
          exact nI_nm1 (by omega)
  · intro i j hi hj
    rw [u0, u0, u1, u1, u2, u2]
    rcases Nat.lt_succ_iff_lt_or_eq.mp hi with hi | rfl <;> rcases Nat.lt_succ_iff_lt_or_eq.mp hj with hj | rfl
    · rw [if_neg (by omega), if_neg (by omega), if_neg (by omega), if_neg (by omega), if_neg (by omega), if_neg (by omega)]
      exact T4 i j hi hj
    · rw [if_neg (by omega), if_pos rfl, if_neg (by omega), if_pos rfl, if_neg (by omega), if_pos rfl]
      exact fun a b c => absurd ⟨a, b, c⟩ (hno i hi)
    · rw [if_pos rfl, if_neg (by omega), if_pos rfl, if_neg (by omega), if_pos rfl, if_neg (by omega)]
      exact fun a b c => absurd ⟨a.symm, b.symm, c.symm⟩ (hno j hj)
    · exact fun _ _ _ => rfl
theorem rowsRep.add {F : Nat → Nat → Int32} {n d0 : Nat} {ov : Bool} {S : RSt} {s p o r f c d : Int32} (h : rowsRep F n ov S) (hn : n < 600) (hd0 : d0 < 1024) (hgo : ∀ e, e < d0 → slotGo F s p o e) (hd : F 7 ((hsh s p o + d0) % 1024) = (-1)) :
    rowsRep (addF F n ((hsh s p o + d0) % 1024) s p o r f c d) (n + 1) ov (addR S (mkRow s p o r f c d)) := by
  have hh : ¬ hasF S.1 s p o = true := fun e => by
    obtain ⟨j, hj, e⟩ := h.has.mp e
    exact h.2.2.2.2.2.none (by omega) hgo hd j hj e
  obtain ⟨h1, h2, h3, h4, h5, h6⟩ := h
  have hov : ov = false := by cases ov with
    | false => rfl
    | true => have := h4 rfl; omega
  subst hov
  have hh2 : ¬ hasF S.1 (mkRow s p o r f c d 0) (mkRow s p o r f c d 1) (mkRow s p o r f c d 2) = true := hh
  have ha : addR S (mkRow s p o r f c d) = (S.1 ++ [mkRow s p o r f c d], false) := by
    unfold addR
    rw [if_neg (by rw [h3]; decide), if_neg hh2, if_neg (by omega)]
  rw [ha]
  refine ⟨by simp [h1], by omega, rfl, (fun e => by cases e), fun i j hi hj => ?_, h6.add hn hd0 hgo hd⟩
  rcases Nat.lt_succ_iff_lt_or_eq.mp hi with hi | rfl
  · rw [getD_app1 (by omega), ← h5 i j hi hj]
    match j, hj with
    | 0, _ => exact if_neg (by omega)
    | 1, _ => exact if_neg (by omega)
    | 2, _ => exact if_neg (by omega)
    | 3, _ => exact if_neg (by omega)
    | 4, _ => exact if_neg (by omega)
    | 5, _ => exact if_neg (by omega)
    | 6, _ => exact if_neg (by omega)
  · rw [show (S.1 ++ [mkRow s p o r f c d]).getD i r0 = mkRow s p o r f c d from by rw [← h1]; exact getD_app2]
    match j, hj with
    | 0, _ => exact if_pos rfl
    | 1, _ => exact if_pos rfl
    | 2, _ => exact if_pos rfl
    | 3, _ => exact if_pos rfl
    | 4, _ => exact if_pos rfl
    | 5, _ => exact if_pos rfl
    | 6, _ => exact if_pos rfl
theorem rowsRep.full {F : Nat → Nat → Int32} {n d0 : Nat} {ov : Bool} {S : RSt} {s p o r f c d : Int32} (h : rowsRep F n ov S) (hn : 600 ≤ n) (hgo : ∀ e, e < d0 → slotGo F s p o e) (hd : F 7 ((hsh s p o + d0) % 1024) = (-1)) :
    rowsRep F n true (addR S (mkRow s p o r f c d)) := by
  have hh : ¬ hasF S.1 s p o = true := fun e => by
    obtain ⟨j, hj, e⟩ := h.has.mp e
    exact h.2.2.2.2.2.none h.2.1 hgo hd j hj e
  obtain ⟨h1, h2, h3, h4, h5, h6⟩ := h
  have hh2 : ¬ hasF S.1 (mkRow s p o r f c d 0) (mkRow s p o r f c d 1) (mkRow s p o r f c d 2) = true := hh
  have ha : addR S (mkRow s p o r f c d) = (S.1, true) := by
    unfold addR
    split
    · rename_i e; rw [← e]
    · first | (rw [if_neg hh2, if_pos (by omega)]; done) | (rw [if_pos (by omega)]; done)
  rw [ha]
  exact ⟨h1, h2, rfl, fun _ => by omega, h5, h6⟩
theorem rowsRep.same {F : Nat → Nat → Int32} {n j k : Nat} {ov : Bool} {S : RSt} {s p o r f c d : Int32} (h : rowsRep F n ov S) (hk : k < 1024) (hj : j < 600) (e : F 7 k = nI j) (hm : F 0 j = s ∧ F 1 j = p ∧ F 2 j = o) :
    rowsRep F n ov (addR S (mkRow s p o r f c d)) := by
  have hh : hasF S.1 s p o = true := h.has.mpr ⟨j, h.2.2.2.2.2.some h.2.1 hk hj e, hm⟩
  have ha : addR S (mkRow s p o r f c d) = S := by
    unfold addR
    split
    · rfl
    · rw [if_pos (show hasF S.1 (mkRow s p o r f c d 0) (mkRow s p o r f c d 1) (mkRow s p o r f c d 2) = true from hh)]
  rw [ha]
  exact h
end
section
theorem rowsRep.le {F : Nat → Nat → Int32} {n : Nat} {ov : Bool} {S : RSt} (h : rowsRep F n ov S) : n ≤ 600 := h.2.1
theorem rowsRep.tab {F : Nat → Nat → Int32} {n : Nat} {ov : Bool} {S : RSt} (h : rowsRep F n ov S) : tabOK F n := h.2.2.2.2.2

set_option maxHeartbeats 4000000 in
set_option maxRecDepth 100000 in
theorem c_X3_addNew (l : Launch) (D : va_G) (g : ClassId × ClassId × ClassId) (h : Nat) (a : Nat → Nat) (F : Nat → Nat → Int32) (n : Nat) (ov : Bool) (am : Int32) (S : RSt) (hR : rowsRep F n ov S) (s p o r f c d : Int32) : zM l yX3_addNew wsX3_addNew ({ frames := 1, cells := 0, slots := 0, locals := 26 } : Room) D g [.ref h, .int s, .int p, .int o, .int r, .int f, .int c, .int d] [(h, .inr (3, [.ref (a 0), .ref (a 1), .ref (a 2), .ref (a 3), .ref (a 4), .ref (a 5), .ref (a 6), .ref (a 7), .ref (a 8), .int (nI n), .int (zb ov), .int am])), (a 0, .inl (g.1, 600, .inl (F 0))), (a 1, .inl (g.1, 600, .inl (F 1))), (a 2, .inl (g.1, 600, .inl (F 2))), (a 3, .inl (g.1, 600, .inl (F 3))), (a 4, .inl (g.1, 600, .inl (F 4))), (a 5, .inl (g.1, 600, .inl (F 5))), (a 6, .inl (g.1, 600, .inl (F 6))), (a 7, .inl (g.1, 1024, .inl (F 7))), (a 8, .inl (g.2.1, 600, .inl (F 8)))] 0 0 (fun v w1 => ∃ (F1 : Nat → Nat → Int32) (n1 : Nat) (o1 : Bool), rowsRep F1 n1 o1 (addR S (mkRow s p o r f c d)) ∧ v = none ∧ w1 = [(h, .inr (3, [.ref (a 0), .ref (a 1), .ref (a 2), .ref (a 3), .ref (a 4), .ref (a 5), .ref (a 6), .ref (a 7), .ref (a 8), .int (nI n1), .int (zb o1), .int am])), (a 0, .inl (g.1, 600, .inl (F1 0))), (a 1, .inl (g.1, 600, .inl (F1 1))), (a 2, .inl (g.1, 600, .inl (F1 2))), (a 3, .inl (g.1, 600, .inl (F1 3))), (a 4, .inl (g.1, 600, .inl (F1 4))), (a 5, .inl (g.1, 600, .inl (F1 5))), (a 6, .inl (g.1, 600, .inl (F1 6))), (a 7, .inl (g.1, 1024, .inl (F1 7))), (a 8, .inl (g.2.1, 600, .inl (F1 8)))]) := by
  refine z_met (cc := cX3_addNew) (maxL := 9) (ret := none) (lv := [(0, .ref h), (1, .int s), (2, .int p), (3, .int o), (4, .int r), (5, .int f), (6, .int c), (7, .int d)]) (by decide) rfl (Nat.le_of_ble_eq_true rfl) rfl ?_
  intro X hXD hXg hXl hnm C E
  subst hXD hXg hXl
  have C : zC X cX3_addNew 9 RX3 wsX3_addNew ({ frames := 1, cells := 0, slots := 0, locals := 26 } : Room) := C
  have hiX3 : ∀ w ∈ u_ws RX3 TX3 12, w ∈ wsX3_addNew := by decide +kernel
  have hf9 : Cond.fieldLink RX3 9 "RdfsRules$Rows" "subjects" "[I" ∈ wsX3_addNew := by decide +kernel
  have hf15 : Cond.fieldLink RX3 15 "RdfsRules$Rows" "properties" "[I" ∈ wsX3_addNew := by decide +kernel
  have hf18 : Cond.fieldLink RX3 18 "RdfsRules$Rows" "objects" "[I" ∈ wsX3_addNew := by decide +kernel
  have hf21 : Cond.fieldLink RX3 21 "RdfsRules$Rows" "rules" "[I" ∈ wsX3_addNew := by decide +kernel
  have hf24 : Cond.fieldLink RX3 24 "RdfsRules$Rows" "firsts" "[I" ∈ wsX3_addNew := by decide +kernel
  have hf27 : Cond.fieldLink RX3 27 "RdfsRules$Rows" "seconds" "[I" ∈ wsX3_addNew := by decide +kernel
  have hf30 : Cond.fieldLink RX3 30 "RdfsRules$Rows" "rounds" "[I" ∈ wsX3_addNew := by decide +kernel
  have hf33 : Cond.fieldLink RX3 33 "RdfsRules$Rows" "rowAtSlot" "[I" ∈ wsX3_addNew := by decide +kernel
  have hf40 : Cond.fieldLink RX3 40 "RdfsRules$Rows" "size" "I" ∈ wsX3_addNew := by decide +kernel
  have hf44 : Cond.fieldLink RX3 44 "RdfsRules$Rows" "overfull" "Z" ∈ wsX3_addNew := by decide +kernel
  have hn6 := hR.le
  refine z_aload_n (q := 1) C 0 rfl rfl dX3_addNew_0 rfl ?_
  refine z_iload_n (q := 2) C 1 rfl rfl dX3_addNew_1 rfl ?_
  refine z_iload_n (q := 3) C 2 rfl rfl dX3_addNew_2 rfl ?_
  refine z_iload_n (q := 4) C 3 rfl rfl dX3_addNew_3 rfl ?_
  refine z_callV (q := 7) (n := 3) (As := [.int s, .int p, .int o]) (rest := []) (wr := []) C (c_X3_slotOf X.l X.D X.2.1 h a F n (zb ov) am s p o (hR.tab.bd hR.le) (hR.tab.free hR.le _)) gX3_addNew_X3_slotOf rfl rfl rfl (by decide +kernel) (by decide) ⟨by first | decide | omega, by first | decide | omega⟩ 0 3 rfl rfl [0, 1, 2, 3, 4, 5, 6, 7, 8, 9] [] rfl rfl (by decide) (by decide) (by decide) rfl rfl (Nat.le_of_ble_eq_true rfl) dX3_addNew_4 rfl (fun v w1 hp => ?_)
  obtain ⟨d0, hd0, hgo, hend, rfl, rfl⟩ := hp
  show zW X 9 [(h, .inr (3, [.ref (a 0), .ref (a 1), .ref (a 2), .ref (a 3), .ref (a 4), .ref (a 5), .ref (a 6), .ref (a 7), .ref (a 8), .int (nI n), .int (zb ov), .int am])), (a 0, .inl (X.cI, 600, .inl (F 0))), (a 1, .inl (X.cI, 600, .inl (F 1))), (a 2, .inl (X.cI, 600, .inl (F 2))), (a 3, .inl (X.cI, 600, .inl (F 3))), (a 4, .inl (X.cI, 600, .inl (F 4))), (a 5, .inl (X.cI, 600, .inl (F 5))), (a 6, .inl (X.cI, 600, .inl (F 6))), (a 7, .inl (X.cI, 1024, .inl (F 7))), (a 8, .inl (X.cZ, 600, .inl (F 8)))] _ _ 7 _ [.int (nI ((hsh s p o + d0) % 1024))]
  refine z_istore (q := 9) (lv' := [(8, .int (nI ((hsh s p o + d0) % 1024))), (0, .ref h), (1, .int s), (2, .int p), (3, .int o), (4, .int r), (5, .int f), (6, .int c), (7, .int d)]) C dX3_addNew_7 rfl (by decide) rfl ?_
  refine z_aload_n (q := 10) C 1 rfl rfl dX3_addNew_9 rfl ?_
  refine z_get (q := 13) (v := .ref (a 7)) C hiX3 0 7 rfl rfl (by decide) hf33 rfl dX3_addNew_10 rfl ?_
  refine z_iload (q := 15) C 0 rfl dX3_addNew_13 rfl ?_
  refine z_iald (q := 16) C 8 rfl (i := (hsh s p o + d0) % 1024) (by omega) (by decide) dX3_addNew_15 rfl ?_
  refine z_iconst (q := 17) C k_iconst_m1 dX3_addNew_16 rfl ?_
  refine z_icmp_eq (q := 20) (tgt := 21) C dX3_addNew_17 (by decide) rfl (fun c17 => ?_) (fun c17 => ?_)
  · skip
    refine z_aload_n (q := 22) C 1 rfl rfl dX3_addNew_21 rfl ?_
    refine z_get (q := 25) (v := .int (nI n)) C hiX3 0 9 rfl rfl (by decide) hf40 rfl dX3_addNew_22 rfl ?_
    refine z_sipush (q := 28) C k_sipush_600 dX3_addNew_25 rfl ?_
    refine z_icmp_lt_n (q := 31) (tgt := 37) C (by omega) (by omega) dX3_addNew_28 (by decide) rfl (fun c28 => ?_) (fun c28 => ?_)
    · skip
      refine z_aload_n (q := 38) C 1 rfl rfl dX3_addNew_37 rfl ?_
      refine z_get (q := 41) (v := .ref (a 7)) C hiX3 0 7 rfl rfl (by decide) hf33 rfl dX3_addNew_38 rfl ?_
      refine z_iload (q := 43) C 0 rfl dX3_addNew_41 rfl ?_
      refine z_aload_n (q := 44) C 1 rfl rfl dX3_addNew_43 rfl ?_
      refine z_get (q := 47) (v := .int (nI n)) C hiX3 0 9 rfl rfl (by decide) hf40 rfl dX3_addNew_44 rfl ?_
      refine z_iast (q := 48) (ws' := [(h, .inr (3, [.ref (a 0), .ref (a 1), .ref (a 2), .ref (a 3), .ref (a 4), .ref (a 5), .ref (a 6), .ref (a 7), .ref (a 8), .int (nI n), .int (zb ov), .int am])), (a 0, .inl (X.cI, 600, .inl (F 0))), (a 1, .inl (X.cI, 600, .inl (F 1))), (a 2, .inl (X.cI, 600, .inl (F 2))), (a 3, .inl (X.cI, 600, .inl (F 3))), (a 4, .inl (X.cI, 600, .inl (F 4))), (a 5, .inl (X.cI, 600, .inl (F 5))), (a 6, .inl (X.cI, 600, .inl (F 6))), (a 7, .inl (X.cI, 1024, .inl (upd (F 7) ((hsh s p o + d0) % 1024) (nI n)))), (a 8, .inl (X.cZ, 600, .inl (F 8)))]) C 8 rfl (i := (hsh s p o + d0) % 1024) (by omega) (by decide) dX3_addNew_47 rfl rfl ?_
      refine z_aload_n (q := 49) C 1 rfl rfl dX3_addNew_48 rfl ?_
      refine z_get (q := 52) (v := .ref (a 0)) C hiX3 0 0 rfl rfl (by decide) hf9 rfl dX3_addNew_49 rfl ?_
      refine z_aload_n (q := 53) C 1 rfl rfl dX3_addNew_52 rfl ?_
      refine z_get (q := 56) (v := .int (nI n)) C hiX3 0 9 rfl rfl (by decide) hf40 rfl dX3_addNew_53 rfl ?_
      refine z_iload_n (q := 57) C 2 rfl rfl dX3_addNew_56 rfl ?_
      refine z_iast (q := 58) (ws' := [(h, .inr (3, [.ref (a 0), .ref (a 1), .ref (a 2), .ref (a 3), .ref (a 4), .ref (a 5), .ref (a 6), .ref (a 7), .ref (a 8), .int (nI n), .int (zb ov), .int am])), (a 0, .inl (X.cI, 600, .inl (upd (F 0) n s))), (a 1, .inl (X.cI, 600, .inl (F 1))), (a 2, .inl (X.cI, 600, .inl (F 2))), (a 3, .inl (X.cI, 600, .inl (F 3))), (a 4, .inl (X.cI, 600, .inl (F 4))), (a 5, .inl (X.cI, 600, .inl (F 5))), (a 6, .inl (X.cI, 600, .inl (F 6))), (a 7, .inl (X.cI, 1024, .inl (upd (F 7) ((hsh s p o + d0) % 1024) (nI n)))), (a 8, .inl (X.cZ, 600, .inl (F 8)))]) C 1 rfl (i := n) (by omega) (by decide) dX3_addNew_57 rfl rfl ?_
      refine z_aload_n (q := 59) C 1 rfl rfl dX3_addNew_58 rfl ?_
      refine z_get (q := 62) (v := .ref (a 1)) C hiX3 0 1 rfl rfl (by decide) hf15 rfl dX3_addNew_59 rfl ?_
      refine z_aload_n (q := 63) C 1 rfl rfl dX3_addNew_62 rfl ?_
      refine z_get (q := 66) (v := .int (nI n)) C hiX3 0 9 rfl rfl (by decide) hf40 rfl dX3_addNew_63 rfl ?_
      refine z_iload_n (q := 67) C 3 rfl rfl dX3_addNew_66 rfl ?_
      refine z_iast (q := 68) (ws' := [(h, .inr (3, [.ref (a 0), .ref (a 1), .ref (a 2), .ref (a 3), .ref (a 4), .ref (a 5), .ref (a 6), .ref (a 7), .ref (a 8), .int (nI n), .int (zb ov), .int am])), (a 0, .inl (X.cI, 600, .inl (upd (F 0) n s))), (a 1, .inl (X.cI, 600, .inl (upd (F 1) n p))), (a 2, .inl (X.cI, 600, .inl (F 2))), (a 3, .inl (X.cI, 600, .inl (F 3))), (a 4, .inl (X.cI, 600, .inl (F 4))), (a 5, .inl (X.cI, 600, .inl (F 5))), (a 6, .inl (X.cI, 600, .inl (F 6))), (a 7, .inl (X.cI, 1024, .inl (upd (F 7) ((hsh s p o + d0) % 1024) (nI n)))), (a 8, .inl (X.cZ, 600, .inl (F 8)))]) C 2 rfl (i := n) (by omega) (by decide) dX3_addNew_67 rfl rfl ?_
      refine z_aload_n (q := 69) C 1 rfl rfl dX3_addNew_68 rfl ?_
      refine z_get (q := 72) (v := .ref (a 2)) C hiX3 0 2 rfl rfl (by decide) hf18 rfl dX3_addNew_69 rfl ?_
      refine z_aload_n (q := 73) C 1 rfl rfl dX3_addNew_72 rfl ?_
      refine z_get (q := 76) (v := .int (nI n)) C hiX3 0 9 rfl rfl (by decide) hf40 rfl dX3_addNew_73 rfl ?_
      refine z_iload_n (q := 77) C 4 rfl rfl dX3_addNew_76 rfl ?_
      refine z_iast (q := 78) (ws' := [(h, .inr (3, [.ref (a 0), .ref (a 1), .ref (a 2), .ref (a 3), .ref (a 4), .ref (a 5), .ref (a 6), .ref (a 7), .ref (a 8), .int (nI n), .int (zb ov), .int am])), (a 0, .inl (X.cI, 600, .inl (upd (F 0) n s))), (a 1, .inl (X.cI, 600, .inl (upd (F 1) n p))), (a 2, .inl (X.cI, 600, .inl (upd (F 2) n o))), (a 3, .inl (X.cI, 600, .inl (F 3))), (a 4, .inl (X.cI, 600, .inl (F 4))), (a 5, .inl (X.cI, 600, .inl (F 5))), (a 6, .inl (X.cI, 600, .inl (F 6))), (a 7, .inl (X.cI, 1024, .inl (upd (F 7) ((hsh s p o + d0) % 1024) (nI n)))), (a 8, .inl (X.cZ, 600, .inl (F 8)))]) C 3 rfl (i := n) (by omega) (by decide) dX3_addNew_77 rfl rfl ?_
      refine z_aload_n (q := 79) C 1 rfl rfl dX3_addNew_78 rfl ?_
      refine z_get (q := 82) (v := .ref (a 3)) C hiX3 0 3 rfl rfl (by decide) hf21 rfl dX3_addNew_79 rfl ?_
      refine z_aload_n (q := 83) C 1 rfl rfl dX3_addNew_82 rfl ?_
      refine z_get (q := 86) (v := .int (nI n)) C hiX3 0 9 rfl rfl (by decide) hf40 rfl dX3_addNew_83 rfl ?_
      refine z_iload (q := 88) C 5 rfl dX3_addNew_86 rfl ?_
      refine z_iast (q := 89) (ws' := [(h, .inr (3, [.ref (a 0), .ref (a 1), .ref (a 2), .ref (a 3), .ref (a 4), .ref (a 5), .ref (a 6), .ref (a 7), .ref (a 8), .int (nI n), .int (zb ov), .int am])), (a 0, .inl (X.cI, 600, .inl (upd (F 0) n s))), (a 1, .inl (X.cI, 600, .inl (upd (F 1) n p))), (a 2, .inl (X.cI, 600, .inl (upd (F 2) n o))), (a 3, .inl (X.cI, 600, .inl (upd (F 3) n r))), (a 4, .inl (X.cI, 600, .inl (F 4))), (a 5, .inl (X.cI, 600, .inl (F 5))), (a 6, .inl (X.cI, 600, .inl (F 6))), (a 7, .inl (X.cI, 1024, .inl (upd (F 7) ((hsh s p o + d0) % 1024) (nI n)))), (a 8, .inl (X.cZ, 600, .inl (F 8)))]) C 4 rfl (i := n) (by omega) (by decide) dX3_addNew_88 rfl rfl ?_
      refine z_aload_n (q := 90) C 1 rfl rfl dX3_addNew_89 rfl ?_
      refine z_get (q := 93) (v := .ref (a 4)) C hiX3 0 4 rfl rfl (by decide) hf24 rfl dX3_addNew_90 rfl ?_
      refine z_aload_n (q := 94) C 1 rfl rfl dX3_addNew_93 rfl ?_
      refine z_get (q := 97) (v := .int (nI n)) C hiX3 0 9 rfl rfl (by decide) hf40 rfl dX3_addNew_94 rfl ?_
      refine z_iload (q := 99) C 6 rfl dX3_addNew_97 rfl ?_
      refine z_iast (q := 100) (ws' := [(h, .inr (3, [.ref (a 0), .ref (a 1), .ref (a 2), .ref (a 3), .ref (a 4), .ref (a 5), .ref (a 6), .ref (a 7), .ref (a 8), .int (nI n), .int (zb ov), .int am])), (a 0, .inl (X.cI, 600, .inl (upd (F 0) n s))), (a 1, .inl (X.cI, 600, .inl (upd (F 1) n p))), (a 2, .inl (X.cI, 600, .inl (upd (F 2) n o))), (a 3, .inl (X.cI, 600, .inl (upd (F 3) n r))), (a 4, .inl (X.cI, 600, .inl (upd (F 4) n f))), (a 5, .inl (X.cI, 600, .inl (F 5))), (a 6, .inl (X.cI, 600, .inl (F 6))), (a 7, .inl (X.cI, 1024, .inl (upd (F 7) ((hsh s p o + d0) % 1024) (nI n)))), (a 8, .inl (X.cZ, 600, .inl (F 8)))]) C 5 rfl (i := n) (by omega) (by decide) dX3_addNew_99 rfl rfl ?_
      refine z_aload_n (q := 101) C 1 rfl rfl dX3_addNew_100 rfl ?_
      refine z_get (q := 104) (v := .ref (a 5)) C hiX3 0 5 rfl rfl (by decide) hf27 rfl dX3_addNew_101 rfl ?_
      refine z_aload_n (q := 105) C 1 rfl rfl dX3_addNew_104 rfl ?_
      refine z_get (q := 108) (v := .int (nI n)) C hiX3 0 9 rfl rfl (by decide) hf40 rfl dX3_addNew_105 rfl ?_
      refine z_iload (q := 110) C 7 rfl dX3_addNew_108 rfl ?_
      refine z_iast (q := 111) (ws' := [(h, .inr (3, [.ref (a 0), .ref (a 1), .ref (a 2), .ref (a 3), .ref (a 4), .ref (a 5), .ref (a 6), .ref (a 7), .ref (a 8), .int (nI n), .int (zb ov), .int am])), (a 0, .inl (X.cI, 600, .inl (upd (F 0) n s))), (a 1, .inl (X.cI, 600, .inl (upd (F 1) n p))), (a 2, .inl (X.cI, 600, .inl (upd (F 2) n o))), (a 3, .inl (X.cI, 600, .inl (upd (F 3) n r))), (a 4, .inl (X.cI, 600, .inl (upd (F 4) n f))), (a 5, .inl (X.cI, 600, .inl (upd (F 5) n c))), (a 6, .inl (X.cI, 600, .inl (F 6))), (a 7, .inl (X.cI, 1024, .inl (upd (F 7) ((hsh s p o + d0) % 1024) (nI n)))), (a 8, .inl (X.cZ, 600, .inl (F 8)))]) C 6 rfl (i := n) (by omega) (by decide) dX3_addNew_110 rfl rfl ?_
      refine z_aload_n (q := 112) C 1 rfl rfl dX3_addNew_111 rfl ?_
      refine z_get (q := 115) (v := .ref (a 6)) C hiX3 0 6 rfl rfl (by decide) hf30 rfl dX3_addNew_112 rfl ?_
      refine z_aload_n (q := 116) C 1 rfl rfl dX3_addNew_115 rfl ?_
      refine z_get (q := 119) (v := .int (nI n)) C hiX3 0 9 rfl rfl (by decide) hf40 rfl dX3_addNew_116 rfl ?_
      refine z_iload (q := 121) C 8 rfl dX3_addNew_119 rfl ?_
      refine z_iast (q := 122) (ws' := [(h, .inr (3, [.ref (a 0), .ref (a 1), .ref (a 2), .ref (a 3), .ref (a 4), .ref (a 5), .ref (a 6), .ref (a 7), .ref (a 8), .int (nI n), .int (zb ov), .int am])), (a 0, .inl (X.cI, 600, .inl (upd (F 0) n s))), (a 1, .inl (X.cI, 600, .inl (upd (F 1) n p))), (a 2, .inl (X.cI, 600, .inl (upd (F 2) n o))), (a 3, .inl (X.cI, 600, .inl (upd (F 3) n r))), (a 4, .inl (X.cI, 600, .inl (upd (F 4) n f))), (a 5, .inl (X.cI, 600, .inl (upd (F 5) n c))), (a 6, .inl (X.cI, 600, .inl (upd (F 6) n d))), (a 7, .inl (X.cI, 1024, .inl (upd (F 7) ((hsh s p o + d0) % 1024) (nI n)))), (a 8, .inl (X.cZ, 600, .inl (F 8)))]) C 7 rfl (i := n) (by omega) (by decide) dX3_addNew_121 rfl rfl ?_
      refine z_aload_n (q := 123) C 1 rfl rfl dX3_addNew_122 rfl ?_
      refine z_dup (q := 124) C rfl dX3_addNew_123 rfl ?_
      refine z_get (q := 127) (v := .int (nI n)) C hiX3 0 9 rfl rfl (by decide) hf40 rfl dX3_addNew_124 rfl ?_
      refine z_iconst (q := 128) C k_iconst_1 dX3_addNew_127 rfl ?_
      refine z_iadd (q := 129) C dX3_addNew_128 rfl ?_
      refine z_eqi (y := nI (n + 1)) (nI_add n 1) ?_
      refine z_put (q := 132) (ws' := [(h, .inr (3, [.ref (a 0), .ref (a 1), .ref (a 2), .ref (a 3), .ref (a 4), .ref (a 5), .ref (a 6), .ref (a 7), .ref (a 8), .int (nI (n + 1)), .int (zb ov), .int am])), (a 0, .inl (X.cI, 600, .inl (upd (F 0) n s))), (a 1, .inl (X.cI, 600, .inl (upd (F 1) n p))), (a 2, .inl (X.cI, 600, .inl (upd (F 2) n o))), (a 3, .inl (X.cI, 600, .inl (upd (F 3) n r))), (a 4, .inl (X.cI, 600, .inl (upd (F 4) n f))), (a 5, .inl (X.cI, 600, .inl (upd (F 5) n c))), (a 6, .inl (X.cI, 600, .inl (upd (F 6) n d))), (a 7, .inl (X.cI, 1024, .inl (upd (F 7) ((hsh s p o + d0) % 1024) (nI n)))), (a 8, .inl (X.cZ, 600, .inl (F 8)))]) C hiX3 tyX3_ok nmX3 0 9 rfl rfl (by decide) hf40 rfl rfl rfl (Nat.le_of_ble_eq_true rfl) dX3_addNew_129 rfl rfl ?_
      refine z_vret C E (by omega) (by omega) dX3_addNew_132 ?_
      exact ⟨addF F n ((hsh s p o + d0) % 1024) s p o r f c d, n + 1, ov, hR.add c28 hd0 hgo c17, rfl, rfl⟩
    · skip
      refine z_aload_n (q := 32) C 1 rfl rfl dX3_addNew_31 rfl ?_
      refine z_iconst (q := 33) C k_iconst_1 dX3_addNew_32 rfl ?_
      refine z_put (q := 36) (ws' := [(h, .inr (3, [.ref (a 0), .ref (a 1), .ref (a 2), .ref (a 3), .ref (a 4), .ref (a 5), .ref (a 6), .ref (a 7), .ref (a 8), .int (nI n), .int (nI 1), .int am])), (a 0, .inl (X.cI, 600, .inl (F 0))), (a 1, .inl (X.cI, 600, .inl (F 1))), (a 2, .inl (X.cI, 600, .inl (F 2))), (a 3, .inl (X.cI, 600, .inl (F 3))), (a 4, .inl (X.cI, 600, .inl (F 4))), (a 5, .inl (X.cI, 600, .inl (F 5))), (a 6, .inl (X.cI, 600, .inl (F 6))), (a 7, .inl (X.cI, 1024, .inl (F 7))), (a 8, .inl (X.cZ, 600, .inl (F 8)))]) C hiX3 tyX3_ok nmX3 0 10 rfl rfl (by decide) hf44 rfl (by decide) (by decide) (Nat.le_of_ble_eq_true rfl) dX3_addNew_33 rfl rfl ?_
      refine z_vret C E (by omega) (by omega) dX3_addNew_36 ?_
      exact ⟨F, n, true, hR.full c28 hgo c17, rfl, rfl⟩
  · skip
    refine z_vret C E (by omega) (by omega) dX3_addNew_20 ?_
    rcases hend with he | ⟨j, hj, ej, hm⟩
    · exact absurd he c17
    · exact ⟨F, n, ov, hR.same (by omega) hj ej hm, rfl, rfl⟩

/-- the row of a fact -/
def findR (L : List Row) (s p o : Int32) : Int32 := match L.findIdx? (fun r => r 0 == s && (r 1 == p && r 2 == o)) with
  | some i => nI i
  | none => (-1)
theorem findR_none {L : List Row} {s p o : Int32} (h : ¬ hasF L s p o = true) : findR L s p o = (-1) := by
  unfold findR
  rw [List.findIdx?_eq_none_iff.mpr (fun x hx => by
    refine Bool.eq_false_iff.mpr (fun e => h ?_)
    unfold hasF
    exact List.any_eq_true.mpr ⟨x, hx, e⟩)]
theorem findR_some {L : List Row} {s p o : Int32} {j : Nat} (hj : j < L.length) (h : L.getD j r0 0 = s ∧ L.getD j r0 1 = p ∧ L.getD j r0 2 = o) (hfirst : ∀ i, i < j → ¬ (L.getD i r0 0 = s ∧ L.getD i r0 1 = p ∧ L.getD i r0 2 = o)) : findR L s p o = nI j := by
  unfold findR
  have : L.findIdx? (fun r => r 0 == s && (r 1 == p && r 2 == o)) = some j := by
    rw [List.findIdx?_eq_some_iff_getElem]
    refine ⟨hj, ?_, fun i hi => ?_⟩
    · rw [getD_lt hj] at h
      simp only [Bool.and_eq_true, beq_iff_eq]
      exact h
    · have := hfirst i hi
      rw [getD_lt (by omega)] at this
      exact fun e => this (by simpa only [Bool.and_eq_true, beq_iff_eq] using e)
  rw [this]
theorem rowsRep.find {F : Nat → Nat → Int32} {n d0 : Nat} {ov : Bool} {S : RSt} {s p o : Int32} (h : rowsRep F n ov S) (hd0 : d0 < 1024) (hgo : ∀ e, e < d0 → slotGo F s p o e) (hend : slotEnd F s p o d0) : F 7 ((hsh s p o + d0) % 1024) = findR S.1 s p o := by
  rcases hend with he | ⟨j, hj, ej, hm⟩
  · rw [he, findR_none]
    intro e
    obtain ⟨j, hj, e⟩ := h.has.mp e
    exact h.2.2.2.2.2.none h.2.1 hgo he j hj e
  · have hjn := h.tab.some h.le (by omega) hj ej
    obtain ⟨h1, h2, h3, h4, h5, h6⟩ := h
    rw [ej, findR_some (j := j) (by omega)]
    · rw [← h5 j 0 hjn (by omega), ← h5 j 1 hjn (by omega), ← h5 j 2 hjn (by omega)]
      exact hm
    · intro i hi hc
      rw [← h5 i 0 (by omega) (by omega), ← h5 i 1 (by omega) (by omega), ← h5 i 2 (by omega) (by omega)] at hc
      have := h6.2.2.2 i j (by omega) hjn (hc.1.trans hm.1.symm) (hc.2.1.trans hm.2.1.symm) (hc.2.2.trans hm.2.2.symm)
      omega

set_option maxHeartbeats 4000000 in
set_option maxRecDepth 100000 in
theorem c_X3_rowOf (l : Launch) (D : va_G) (g : ClassId × ClassId × ClassId) (h : Nat) (a : Nat → Nat) (F : Nat → Nat → Int32) (n : Nat) (ov : Bool) (am : Int32) (S : RSt) (hR : rowsRep F n ov S) (s p o : Int32) : zM l yX3_rowOf wsX3_rowOf ({ frames := 1, cells := 0, slots := 0, locals := 26 } : Room) D g [.ref h, .int s, .int p, .int o] [(h, .inr (3, [.ref (a 0), .ref (a 1), .ref (a 2), .ref (a 3), .ref (a 4), .ref (a 5), .ref (a 6), .ref (a 7), .ref (a 8), .int (nI n), .int (zb ov), .int am])), (a 0, .inl (g.1, 600, .inl (F 0))), (a 1, .inl (g.1, 600, .inl (F 1))), (a 2, .inl (g.1, 600, .inl (F 2))), (a 3, .inl (g.1, 600, .inl (F 3))), (a 4, .inl (g.1, 600, .inl (F 4))), (a 5, .inl (g.1, 600, .inl (F 5))), (a 6, .inl (g.1, 600, .inl (F 6))), (a 7, .inl (g.1, 1024, .inl (F 7))), (a 8, .inl (g.2.1, 600, .inl (F 8)))] 0 0 (fun v w1 => v = some (.int (findR S.1 s p o)) ∧ w1 = [(h, .inr (3, [.ref (a 0), .ref (a 1), .ref (a 2), .ref (a 3), .ref (a 4), .ref (a 5), .ref (a 6), .ref (a 7), .ref (a 8), .int (nI n), .int (zb ov), .int am])), (a 0, .inl (g.1, 600, .inl (F 0))), (a 1, .inl (g.1, 600, .inl (F 1))), (a 2, .inl (g.1, 600, .inl (F 2))), (a 3, .inl (g.1, 600, .inl (F 3))), (a 4, .inl (g.1, 600, .inl (F 4))), (a 5, .inl (g.1, 600, .inl (F 5))), (a 6, .inl (g.1, 600, .inl (F 6))), (a 7, .inl (g.1, 1024, .inl (F 7))), (a 8, .inl (g.2.1, 600, .inl (F 8)))]) := by
  refine z_met (cc := cX3_rowOf) (maxL := 4) (ret := (some .int)) (lv := [(0, .ref h), (1, .int s), (2, .int p), (3, .int o)]) (by decide) rfl (Nat.le_of_ble_eq_true rfl) rfl ?_
  intro X hXD hXg hXl hnm C E
  subst hXD hXg hXl
  have C : zC X cX3_rowOf 4 RX3 wsX3_rowOf ({ frames := 1, cells := 0, slots := 0, locals := 26 } : Room) := C
  have hiX3 : ∀ w ∈ u_ws RX3 TX3 12, w ∈ wsX3_rowOf := by decide +kernel
  have hf33 : Cond.fieldLink RX3 33 "RdfsRules$Rows" "rowAtSlot" "[I" ∈ wsX3_rowOf := by decide +kernel
  have hn6 := hR.le
  refine z_aload_n (q := 1) C 0 rfl rfl dX3_rowOf_0 rfl ?_
  refine z_get (q := 4) (v := .ref (a 7)) C hiX3 0 7 rfl rfl (by decide) hf33 rfl dX3_rowOf_1 rfl ?_
  refine z_aload_n (q := 5) C 0 rfl rfl dX3_rowOf_4 rfl ?_
  refine z_iload_n (q := 6) C 1 rfl rfl dX3_rowOf_5 rfl ?_
  refine z_iload_n (q := 7) C 2 rfl rfl dX3_rowOf_6 rfl ?_
  refine z_iload_n (q := 8) C 3 rfl rfl dX3_rowOf_7 rfl ?_
  refine z_callV (q := 11) (n := 3) (As := [.int s, .int p, .int o]) (rest := [.ref (a 7)]) (wr := []) C (c_X3_slotOf X.l X.D X.2.1 h a F n (zb ov) am s p o (hR.tab.bd hR.le) (hR.tab.free hR.le _)) gX3_rowOf_X3_slotOf rfl rfl rfl (by decide +kernel) (by decide) ⟨by first | decide | omega, by first | decide | omega⟩ 0 3 rfl rfl [0, 1, 2, 3, 4, 5, 6, 7, 8, 9] [] rfl rfl (by decide) (by decide) (by decide) rfl rfl (Nat.le_of_ble_eq_true rfl) dX3_rowOf_8 rfl (fun v w1 hp => ?_)
  obtain ⟨d0, hd0, hgo, hend, rfl, rfl⟩ := hp
  show zW X 4 [(h, .inr (3, [.ref (a 0), .ref (a 1), .ref (a 2), .ref (a 3), .ref (a 4), .ref (a 5), .ref (a 6), .ref (a 7), .ref (a 8), .int (nI n), .int (zb ov), .int am])), (a 0, .inl (X.cI, 600, .inl (F 0))), (a 1, .inl (X.cI, 600, .inl (F 1))), (a 2, .inl (X.cI, 600, .inl (F 2))), (a 3, .inl (X.cI, 600, .inl (F 3))), (a 4, .inl (X.cI, 600, .inl (F 4))), (a 5, .inl (X.cI, 600, .inl (F 5))), (a 6, .inl (X.cI, 600, .inl (F 6))), (a 7, .inl (X.cI, 1024, .inl (F 7))), (a 8, .inl (X.cZ, 600, .inl (F 8)))] _ _ 11 _ [.int (nI ((hsh s p o + d0) % 1024)), .ref (a 7)]
  refine z_iald (q := 12) C 8 rfl (i := (hsh s p o + d0) % 1024) (by omega) (by decide) dX3_rowOf_11 rfl ?_
  refine z_iret C E (by omega) (by omega) dX3_rowOf_12 ?_
  exact ⟨by rw [hR.find hd0 hgo hend], rfl⟩

set_option maxHeartbeats 4000000 in
set_option maxRecDepth 100000 in
theorem c_X3_size (l : Launch) (D : va_G) (g : ClassId × ClassId × ClassId) (h : Nat) (a : Nat → Nat) (n : Nat) (ov : Bool) (am : Int32) : zM l yX3_size wsX3_size ({ frames := 0, cells := 0, slots := 0, locals := 0 } : Room) D g [.ref h] [(h, .inr (3, [.ref (a 0), .ref (a 1), .ref (a 2), .ref (a 3), .ref (a 4), .ref (a 5), .ref (a 6), .ref (a 7), .ref (a 8), .int (nI n), .int (zb ov), .int am]))] 0 0 (fun v w1 => v = some (.int (nI n)) ∧ w1 = [(h, .inr (3, [.ref (a 0), .ref (a 1), .ref (a 2), .ref (a 3), .ref (a 4), .ref (a 5), .ref (a 6), .ref (a 7), .ref (a 8), .int (nI n), .int (zb ov), .int am]))]) := by
  refine z_met (cc := cX3_size) (maxL := 1) (ret := (some .int)) (lv := [(0, .ref h)]) (by decide) rfl (Nat.le_of_ble_eq_true rfl) rfl ?_
  intro X hXD hXg hXl hnm C E
  subst hXD hXg hXl
  have C : zC X cX3_size 1 RX3 wsX3_size ({ frames := 0, cells := 0, slots := 0, locals := 0 } : Room) := C
  have hiX3 : ∀ w ∈ u_ws RX3 TX3 12, w ∈ wsX3_size := by decide +kernel
  have hf40 : Cond.fieldLink RX3 40 "RdfsRules$Rows" "size" "I" ∈ wsX3_size := by decide +kernel
  refine z_aload_n (q := 1) C 0 rfl rfl dX3_size_0 rfl ?_
  refine z_get (q := 4) (v := .int (nI n)) C hiX3 0 9 rfl rfl (by decide) hf40 rfl dX3_size_1 rfl ?_
  refine z_iret C E (by omega) (by omega) dX3_size_4 ?_
  exact ⟨rfl, rfl⟩

set_option maxHeartbeats 4000000 in
set_option maxRecDepth 100000 in
theorem c_X3_isOverfull (l : Launch) (D : va_G) (g : ClassId × ClassId × ClassId) (h : Nat) (a : Nat → Nat) (n : Nat) (ov : Bool) (am : Int32) : zM l yX3_isOverfull wsX3_isOverfull ({ frames := 0, cells := 0, slots := 0, locals := 0 } : Room) D g [.ref h] [(h, .inr (3, [.ref (a 0), .ref (a 1), .ref (a 2), .ref (a 3), .ref (a 4), .ref (a 5), .ref (a 6), .ref (a 7), .ref (a 8), .int (nI n), .int (zb ov), .int am]))] 0 0 (fun v w1 => v = some (.int (zb ov)) ∧ w1 = [(h, .inr (3, [.ref (a 0), .ref (a 1), .ref (a 2), .ref (a 3), .ref (a 4), .ref (a 5), .ref (a 6), .ref (a 7), .ref (a 8), .int (nI n), .int (zb ov), .int am]))]) := by
  refine z_met (cc := cX3_isOverfull) (maxL := 1) (ret := (some .boolean)) (lv := [(0, .ref h)]) (by decide) rfl (Nat.le_of_ble_eq_true rfl) rfl ?_
  intro X hXD hXg hXl hnm C E
  subst hXD hXg hXl
  have C : zC X cX3_isOverfull 1 RX3 wsX3_isOverfull ({ frames := 0, cells := 0, slots := 0, locals := 0 } : Room) := C
  have hiX3 : ∀ w ∈ u_ws RX3 TX3 12, w ∈ wsX3_isOverfull := by decide +kernel
  have hf44 : Cond.fieldLink RX3 44 "RdfsRules$Rows" "overfull" "Z" ∈ wsX3_isOverfull := by decide +kernel
  refine z_aload_n (q := 1) C 0 rfl rfl dX3_isOverfull_0 rfl ?_
  refine z_get (q := 4) (v := .int (zb ov)) C hiX3 0 10 rfl rfl (by decide) hf44 rfl dX3_isOverfull_1 rfl ?_
  refine z_zret C E (by omega) (by omega) (zb_nar _) dX3_isOverfull_4 ?_
  exact ⟨rfl, rfl⟩

def rowB (n : Nat) (i : Int32) : Bool := decide (0 ≤ i.toInt ∧ i.toInt < (n : Int))
set_option maxHeartbeats 4000000 in
set_option maxRecDepth 100000 in
theorem c_X3_isRow (l : Launch) (D : va_G) (g : ClassId × ClassId × ClassId) (h : Nat) (a : Nat → Nat) (n : Nat) (hn : n ≤ 600) (ov : Bool) (am : Int32) (i : Int32) : zM l yX3_isRow wsX3_isRow ({ frames := 0, cells := 0, slots := 0, locals := 0 } : Room) D g [.ref h, .int i] [(h, .inr (3, [.ref (a 0), .ref (a 1), .ref (a 2), .ref (a 3), .ref (a 4), .ref (a 5), .ref (a 6), .ref (a 7), .ref (a 8), .int (nI n), .int (zb ov), .int am]))] 0 0 (fun v w1 => v = some (.int (zb (rowB n i))) ∧ w1 = [(h, .inr (3, [.ref (a 0), .ref (a 1), .ref (a 2), .ref (a 3), .ref (a 4), .ref (a 5), .ref (a 6), .ref (a 7), .ref (a 8), .int (nI n), .int (zb ov), .int am]))]) := by
  refine z_met (cc := cX3_isRow) (maxL := 2) (ret := (some .boolean)) (lv := [(0, .ref h), (1, .int i)]) (by decide) rfl (Nat.le_of_ble_eq_true rfl) rfl ?_
  intro X hXD hXg hXl hnm C E
  subst hXD hXg hXl
  have C : zC X cX3_isRow 2 RX3 wsX3_isRow ({ frames := 0, cells := 0, slots := 0, locals := 0 } : Room) := C
  have hiX3 : ∀ w ∈ u_ws RX3 TX3 12, w ∈ wsX3_isRow := by decide +kernel
  have hf40 : Cond.fieldLink RX3 40 "RdfsRules$Rows" "size" "I" ∈ wsX3_isRow := by decide +kernel
  refine z_iload_n (q := 1) C 1 rfl rfl dX3_isRow_0 rfl ?_
  refine z_if_lt_i (q := 4) (tgt := 16) C rfl dX3_isRow_1 (by decide) rfl (fun c1 => ?_) (fun c1 => ?_)
  · skip
    refine z_iconst (q := 17) C k_iconst_0 dX3_isRow_16 rfl ?_
    refine z_zret C E (by omega) (by omega) (by decide) dX3_isRow_17 ?_
    exact ⟨congrArg (fun z => some (Value.int z)) (zb_is0 (decide_eq_false (by omega))), rfl⟩
  · skip
    refine z_iload_n (q := 5) C 1 rfl rfl dX3_isRow_4 rfl ?_
    refine z_aload_n (q := 6) C 0 rfl rfl dX3_isRow_5 rfl ?_
    refine z_get (q := 9) (v := .int (nI n)) C hiX3 0 9 rfl rfl (by decide) hf40 rfl dX3_isRow_6 rfl ?_
    refine z_icmp_ge_i (q := 12) (tgt := 16) C rfl (nI_toInt (n := n) (by omega)) dX3_isRow_9 (by decide) rfl (fun c9 => ?_) (fun c9 => ?_)
    · skip
      refine z_iconst (q := 17) C k_iconst_0 dX3_isRow_16 rfl ?_
      refine z_zret C E (by omega) (by omega) (by decide) dX3_isRow_17 ?_
      exact ⟨congrArg (fun z => some (Value.int z)) (zb_is0 (decide_eq_false (by omega))), rfl⟩
    · skip
      refine z_iconst (q := 13) C k_iconst_1 dX3_isRow_12 rfl ?_
      refine z_goto (tgt := 17) C dX3_isRow_13 (by decide) ?_
      refine z_zret C E (by omega) (by omega) (by decide) dX3_isRow_17 ?_
      exact ⟨congrArg (fun z => some (Value.int z)) (zb_is1 (decide_eq_true (by omega))), rfl⟩
end
section
theorem rowsRep.at {F : Nat → Nat → Int32} {n : Nat} {ov : Bool} {S : RSt} (h : rowsRep F n ov S) {i j : Nat} (hi : i < n) (hj : j < 7) : F j i = S.1.getD i r0 j := h.2.2.2.2.1 i j hi hj
set_option maxHeartbeats 4000000 in
set_option maxRecDepth 100000 in
theorem c_X3_part (l : Launch) (D : va_G) (g : ClassId × ClassId × ClassId) (h : Nat) (a : Nat → Nat) (F : Nat → Nat → Int32) (n : Nat) (ov : Bool) (am : Int32) (S : RSt) (hR : rowsRep F n ov S) (i w : Nat) (hi : i < n) (hw : w ≤ 6) : zM l yX3_part wsX3_part ({ frames := 0, cells := 0, slots := 0, locals := 0 } : Room) D g [.ref h, .int (nI i), .int (nI w)] [(h, .inr (3, [.ref (a 0), .ref (a 1), .ref (a 2), .ref (a 3), .ref (a 4), .ref (a 5), .ref (a 6), .ref (a 7), .ref (a 8), .int (nI n), .int (zb ov), .int am])), (a 0, .inl (g.1, 600, .inl (F 0))), (a 1, .inl (g.1, 600, .inl (F 1))), (a 2, .inl (g.1, 600, .inl (F 2))), (a 3, .inl (g.1, 600, .inl (F 3))), (a 4, .inl (g.1, 600, .inl (F 4))), (a 5, .inl (g.1, 600, .inl (F 5))), (a 6, .inl (g.1, 600, .inl (F 6))), (a 7, .inl (g.1, 1024, .inl (F 7))), (a 8, .inl (g.2.1, 600, .inl (F 8)))] 0 0 (fun v w1 => v = some (.int (S.1.getD i r0 w)) ∧ w1 = [(h, .inr (3, [.ref (a 0), .ref (a 1), .ref (a 2), .ref (a 3), .ref (a 4), .ref (a 5), .ref (a 6), .ref (a 7), .ref (a 8), .int (nI n), .int (zb ov), .int am])), (a 0, .inl (g.1, 600, .inl (F 0))), (a 1, .inl (g.1, 600, .inl (F 1))), (a 2, .inl (g.1, 600, .inl (F 2))), (a 3, .inl (g.1, 600, .inl (F 3))), (a 4, .inl (g.1, 600, .inl (F 4))), (a 5, .inl (g.1, 600, .inl (F 5))), (a 6, .inl (g.1, 600, .inl (F 6))), (a 7, .inl (g.1, 1024, .inl (F 7))), (a 8, .inl (g.2.1, 600, .inl (F 8)))]) := by
  refine z_met (cc := cX3_part) (maxL := 3) (ret := (some .int)) (lv := [(0, .ref h), (1, .int (nI i)), (2, .int (nI w))]) (by decide) rfl (Nat.le_of_ble_eq_true rfl) rfl ?_
  intro X hXD hXg hXl hnm C E
  subst hXD hXg hXl
  have C : zC X cX3_part 3 RX3 wsX3_part ({ frames := 0, cells := 0, slots := 0, locals := 0 } : Room) := C
  have hiX3 : ∀ w ∈ u_ws RX3 TX3 12, w ∈ wsX3_part := by decide +kernel
  have hf9 : Cond.fieldLink RX3 9 "RdfsRules$Rows" "subjects" "[I" ∈ wsX3_part := by decide +kernel
  have hf15 : Cond.fieldLink RX3 15 "RdfsRules$Rows" "properties" "[I" ∈ wsX3_part := by decide +kernel
  have hf18 : Cond.fieldLink RX3 18 "RdfsRules$Rows" "objects" "[I" ∈ wsX3_part := by decide +kernel
  have hf21 : Cond.fieldLink RX3 21 "RdfsRules$Rows" "rules" "[I" ∈ wsX3_part := by decide +kernel
  have hf24 : Cond.fieldLink RX3 24 "RdfsRules$Rows" "firsts" "[I" ∈ wsX3_part := by decide +kernel
  have hf27 : Cond.fieldLink RX3 27 "RdfsRules$Rows" "seconds" "[I" ∈ wsX3_part := by decide +kernel
  have hf30 : Cond.fieldLink RX3 30 "RdfsRules$Rows" "rounds" "[I" ∈ wsX3_part := by decide +kernel
  have hn6 := hR.le
  rcases (show w = 0 ∨ w = 1 ∨ w = 2 ∨ w = 3 ∨ w = 4 ∨ w = 5 ∨ w = 6 by omega) with rfl | rfl | rfl | rfl | rfl | rfl | rfl
  · skip
    refine z_iload_n (q := 1) C 2 rfl rfl dX3_part_0 rfl ?_
    refine z_tableIn (off := 39) (tgt := 40) C dX3_part_1 (by decide) (by decide) (by decide) (by decide) ?_
    refine z_aload_n (q := 41) C 0 rfl rfl dX3_part_40 rfl ?_
    refine z_get (q := 44) (v := .ref (a 0)) C hiX3 0 0 rfl rfl (by decide) hf9 rfl dX3_part_41 rfl ?_
    refine z_iload_n (q := 45) C 1 rfl rfl dX3_part_44 rfl ?_
    refine z_iald (q := 46) C 1 rfl (i := i) (by omega) (by decide) dX3_part_45 rfl ?_
    refine z_iret C E (by omega) (by omega) dX3_part_46 ?_
    exact ⟨by rw [hR.at hi (by omega)], rfl⟩
  · skip
    refine z_iload_n (q := 1) C 2 rfl rfl dX3_part_0 rfl ?_
    refine z_tableIn (off := 46) (tgt := 47) C dX3_part_1 (by decide) (by decide) (by decide) (by decide) ?_
    refine z_aload_n (q := 48) C 0 rfl rfl dX3_part_47 rfl ?_
    refine z_get (q := 51) (v := .ref (a 1)) C hiX3 0 1 rfl rfl (by decide) hf15 rfl dX3_part_48 rfl ?_
    refine z_iload_n (q := 52) C 1 rfl rfl dX3_part_51 rfl ?_
    refine z_iald (q := 53) C 2 rfl (i := i) (by omega) (by decide) dX3_part_52 rfl ?_
    refine z_iret C E (by omega) (by omega) dX3_part_53 ?_
    exact ⟨by rw [hR.at hi (by omega)], rfl⟩
  · skip
    refine z_iload_n (q := 1) C 2 rfl rfl dX3_part_0 rfl ?_
    refine z_tableIn (off := 53) (tgt := 54) C dX3_part_1 (by decide) (by decide) (by decide) (by decide) ?_
    refine z_aload_n (q := 55) C 0 rfl rfl dX3_part_54 rfl ?_
    refine z_get (q := 58) (v := .ref (a 2)) C hiX3 0 2 rfl rfl (by decide) hf18 rfl dX3_part_55 rfl ?_
    refine z_iload_n (q := 59) C 1 rfl rfl dX3_part_58 rfl ?_
    refine z_iald (q := 60) C 3 rfl (i := i) (by omega) (by decide) dX3_part_59 rfl ?_
    refine z_iret C E (by omega) (by omega) dX3_part_60 ?_
    exact ⟨by rw [hR.at hi (by omega)], rfl⟩
  · skip
    refine z_iload_n (q := 1) C 2 rfl rfl dX3_part_0 rfl ?_
    refine z_tableIn (off := 60) (tgt := 61) C dX3_part_1 (by decide) (by decide) (by decide) (by decide) ?_
    refine z_aload_n (q := 62) C 0 rfl rfl dX3_part_61 rfl ?_
    refine z_get (q := 65) (v := .ref (a 3)) C hiX3 0 3 rfl rfl (by decide) hf21 rfl dX3_part_62 rfl ?_
    refine z_iload_n (q := 66) C 1 rfl rfl dX3_part_65 rfl ?_
    refine z_iald (q := 67) C 4 rfl (i := i) (by omega) (by decide) dX3_part_66 rfl ?_
    refine z_iret C E (by omega) (by omega) dX3_part_67 ?_
    exact ⟨by rw [hR.at hi (by omega)], rfl⟩
  · skip
    refine z_iload_n (q := 1) C 2 rfl rfl dX3_part_0 rfl ?_
    refine z_tableIn (off := 67) (tgt := 68) C dX3_part_1 (by decide) (by decide) (by decide) (by decide) ?_
    refine z_aload_n (q := 69) C 0 rfl rfl dX3_part_68 rfl ?_
    refine z_get (q := 72) (v := .ref (a 4)) C hiX3 0 4 rfl rfl (by decide) hf24 rfl dX3_part_69 rfl ?_
    refine z_iload_n (q := 73) C 1 rfl rfl dX3_part_72 rfl ?_
    refine z_iald (q := 74) C 5 rfl (i := i) (by omega) (by decide) dX3_part_73 rfl ?_
    refine z_iret C E (by omega) (by omega) dX3_part_74 ?_
    exact ⟨by rw [hR.at hi (by omega)], rfl⟩
  · skip
    refine z_iload_n (q := 1) C 2 rfl rfl dX3_part_0 rfl ?_
    refine z_tableIn (off := 74) (tgt := 75) C dX3_part_1 (by decide) (by decide) (by decide) (by decide) ?_
    refine z_aload_n (q := 76) C 0 rfl rfl dX3_part_75 rfl ?_
    refine z_get (q := 79) (v := .ref (a 5)) C hiX3 0 5 rfl rfl (by decide) hf27 rfl dX3_part_76 rfl ?_
    refine z_iload_n (q := 80) C 1 rfl rfl dX3_part_79 rfl ?_
    refine z_iald (q := 81) C 6 rfl (i := i) (by omega) (by decide) dX3_part_80 rfl ?_
    refine z_iret C E (by omega) (by omega) dX3_part_81 ?_
    exact ⟨by rw [hR.at hi (by omega)], rfl⟩
  · skip
    refine z_iload_n (q := 1) C 2 rfl rfl dX3_part_0 rfl ?_
    refine z_tableOut (tgt := 82) C dX3_part_1 (by decide) (by decide) ?_
    refine z_aload_n (q := 83) C 0 rfl rfl dX3_part_82 rfl ?_
    refine z_get (q := 86) (v := .ref (a 6)) C hiX3 0 6 rfl rfl (by decide) hf30 rfl dX3_part_83 rfl ?_
    refine z_iload_n (q := 87) C 1 rfl rfl dX3_part_86 rfl ?_
    refine z_iald (q := 88) C 7 rfl (i := i) (by omega) (by decide) dX3_part_87 rfl ?_
    refine z_iret C E (by omega) (by omega) dX3_part_88 ?_
    exact ⟨by rw [hR.at hi (by omega)], rfl⟩

def cntN (P : Row → Bool) (L : List Row) : Nat → Nat
  | 0 => 0
  | k + 1 => cntN P L k + (if P (L.getD k r0) then 1 else 0)
theorem cntN_le (P : Row → Bool) (L : List Row) : ∀ k, cntN P L k ≤ k
  | 0 => Nat.le_refl 0
  | k + 1 => by
    have := cntN_le P L k
    unfold cntN
    split <;> omega
theorem cntN_t {P : Row → Bool} {L : List Row} {k : Nat} (h : P (L.getD k r0) = true) : cntN P L (k + 1) = cntN P L k + 1 := by show cntN P L k + _ = _; rw [if_pos h]
theorem cntN_f {P : Row → Bool} {L : List Row} {k : Nat} (h : P (L.getD k r0) = false) : cntN P L (k + 1) = cntN P L k := by
  show cntN P L k + _ = _
  rw [h]
  rfl
def ruleP (x : Int32) : Row → Bool := fun r => decide (r 3 = x)
def litP : Row → Bool := fun r => decide (300 ≤ (r 0).toInt)
def memP (m : Nat) : Row → Bool := fun r => decide (20 + (m : Int) ≤ (r 1).toInt ∧ (r 1).toInt < 29)

set_option maxHeartbeats 4000000 in
set_option maxRecDepth 100000 in
theorem l_X3_madeBy {X : zX} (h : Nat) (a : Nat → Nat) (F : Nat → Nat → Int32) (n : Nat) (ov : Bool) (am : Int32) (S : RSt) (x : Int32) (hR : rowsRep F n ov S) (C : zC X cX3_madeBy 4 RX3 wsX3_madeBy ({ frames := 0, cells := 0, slots := 0, locals := 0 } : Room)) (E : zE X (some .int) 0 0 (fun v w1 => v = some (.int (nI (cntN (ruleP x) S.1 n))) ∧ w1 = [(h, .inr (3, [.ref (a 0), .ref (a 1), .ref (a 2), .ref (a 3), .ref (a 4), .ref (a 5), .ref (a 6), .ref (a 7), .ref (a 8), .int (nI n), .int (zb ov), .int am])), (a 0, .inl (X.cI, 600, .inl (F 0))), (a 1, .inl (X.cI, 600, .inl (F 1))), (a 2, .inl (X.cI, 600, .inl (F 2))), (a 3, .inl (X.cI, 600, .inl (F 3))), (a 4, .inl (X.cI, 600, .inl (F 4))), (a 5, .inl (X.cI, 600, .inl (F 5))), (a 6, .inl (X.cI, 600, .inl (F 6))), (a 7, .inl (X.cI, 1024, .inl (F 7))), (a 8, .inl (X.cZ, 600, .inl (F 8)))])) : ∀ (k : Nat) (i : Nat), i ≤ n → n < i + k → zW X 4 [(h, .inr (3, [.ref (a 0), .ref (a 1), .ref (a 2), .ref (a 3), .ref (a 4), .ref (a 5), .ref (a 6), .ref (a 7), .ref (a 8), .int (nI n), .int (zb ov), .int am])), (a 0, .inl (X.cI, 600, .inl (F 0))), (a 1, .inl (X.cI, 600, .inl (F 1))), (a 2, .inl (X.cI, 600, .inl (F 2))), (a 3, .inl (X.cI, 600, .inl (F 3))), (a 4, .inl (X.cI, 600, .inl (F 4))), (a 5, .inl (X.cI, 600, .inl (F 5))), (a 6, .inl (X.cI, 600, .inl (F 6))), (a 7, .inl (X.cI, 1024, .inl (F 7))), (a 8, .inl (X.cZ, 600, .inl (F 8)))] 0 0 4 [(0, .ref h), (1, .int x), (2, .int (nI (cntN (ruleP x) S.1 i))), (3, .int (nI i))] [] := by
  have hiX3 : ∀ w ∈ u_ws RX3 TX3 12, w ∈ wsX3_madeBy := by decide +kernel
  have hf21 : Cond.fieldLink RX3 21 "RdfsRules$Rows" "rules" "[I" ∈ wsX3_madeBy := by decide +kernel
  have hf40 : Cond.fieldLink RX3 40 "RdfsRules$Rows" "size" "I" ∈ wsX3_madeBy := by decide +kernel
  intro k
  induction k with
  | zero =>
    intro i hi hk
    exfalso
    omega
  | succ k ih =>
    intro i hi hk
    have hn6 := hR.le
    have hcl := cntN_le (ruleP x) S.1 i
    refine z_iload_n (q := 5) C 3 rfl rfl dX3_madeBy_4 rfl ?_
    refine z_aload_n (q := 6) C 0 rfl rfl dX3_madeBy_5 rfl ?_
    refine z_get (q := 9) (v := .int (nI n)) C hiX3 0 9 rfl rfl (by decide) hf40 rfl dX3_madeBy_6 rfl ?_
    refine z_icmp_ge_n (q := 12) (tgt := 31) C (by omega) (by omega) dX3_madeBy_9 (by decide) rfl (fun c9 => ?_) (fun c9 => ?_)
    · skip
      refine z_iload_n (q := 32) C 2 rfl rfl dX3_madeBy_31 rfl ?_
      refine z_iret C E (by omega) (by omega) dX3_madeBy_32 ?_
      have hin : i = n := by omega
      subst hin
      exact ⟨rfl, rfl⟩
    · skip
      have hlt : i < n := c9
      refine z_aload_n (q := 13) C 0 rfl rfl dX3_madeBy_12 rfl ?_
      refine z_get (q := 16) (v := .ref (a 3)) C hiX3 0 3 rfl rfl (by decide) hf21 rfl dX3_madeBy_13 rfl ?_
      refine z_iload_n (q := 17) C 3 rfl rfl dX3_madeBy_16 rfl ?_
      refine z_iald (q := 18) C 4 rfl (i := i) (by omega) (by decide) dX3_madeBy_17 rfl ?_
      refine z_iload_n (q := 19) C 1 rfl rfl dX3_madeBy_18 rfl ?_
      refine z_icmp_ne (q := 22) (tgt := 25) C dX3_madeBy_19 (by decide) rfl (fun c19 => ?_) (fun c19 => ?_)
      · skip
        refine z_iinc (q := 28) (v := nI (i + 1)) (lv' := [(3, .int (nI (i + 1))), (0, .ref h), (1, .int x), (2, .int (nI (cntN (ruleP x) S.1 i)))]) C 3 dX3_madeBy_25 rfl rfl (k_inc1 i) (by decide) rfl ?_
        refine z_goto (tgt := 4) C dX3_madeBy_28 (by decide) ?_
        refine z_lv [1, 2, 3, 0] rfl ?_
        have hc : (ruleP x) (S.1.getD i r0) = false := decide_eq_false (by rw [← hR.at hlt (by omega)]; exact c19)
        rw [← cntN_f hc]
        exact ih (i + 1) (by omega) (by omega)
      · skip
        refine z_iinc (q := 25) (v := nI (cntN (ruleP x) S.1 i + 1)) (lv' := [(2, .int (nI (cntN (ruleP x) S.1 i + 1))), (0, .ref h), (1, .int x), (3, .int (nI i))]) C 2 dX3_madeBy_22 rfl rfl (k_inc1 (cntN (ruleP x) S.1 i)) (by decide) rfl ?_
        refine z_iinc (q := 28) (v := nI (i + 1)) (lv' := [(3, .int (nI (i + 1))), (2, .int (nI (cntN (ruleP x) S.1 i + 1))), (0, .ref h), (1, .int x)]) C 3 dX3_madeBy_25 rfl rfl (k_inc1 i) (by decide) rfl ?_
        refine z_goto (tgt := 4) C dX3_madeBy_28 (by decide) ?_
        refine z_lv [2, 3, 1, 0] rfl ?_
        have hc : (ruleP x) (S.1.getD i r0) = true := decide_eq_true (by rw [← hR.at hlt (by omega)]; exact c19)
        rw [← cntN_t hc]
        exact ih (i + 1) (by omega) (by omega)

set_option maxHeartbeats 4000000 in
set_option maxRecDepth 100000 in
theorem c_X3_madeBy (l : Launch) (D : va_G) (g : ClassId × ClassId × ClassId) (h : Nat) (a : Nat → Nat) (F : Nat → Nat → Int32) (n : Nat) (ov : Bool) (am : Int32) (S : RSt) (x : Int32) (hR : rowsRep F n ov S) : zM l yX3_madeBy wsX3_madeBy ({ frames := 0, cells := 0, slots := 0, locals := 0 } : Room) D g [.ref h, .int x] [(h, .inr (3, [.ref (a 0), .ref (a 1), .ref (a 2), .ref (a 3), .ref (a 4), .ref (a 5), .ref (a 6), .ref (a 7), .ref (a 8), .int (nI n), .int (zb ov), .int am])), (a 0, .inl (g.1, 600, .inl (F 0))), (a 1, .inl (g.1, 600, .inl (F 1))), (a 2, .inl (g.1, 600, .inl (F 2))), (a 3, .inl (g.1, 600, .inl (F 3))), (a 4, .inl (g.1, 600, .inl (F 4))), (a 5, .inl (g.1, 600, .inl (F 5))), (a 6, .inl (g.1, 600, .inl (F 6))), (a 7, .inl (g.1, 1024, .inl (F 7))), (a 8, .inl (g.2.1, 600, .inl (F 8)))] 0 0 (fun v w1 => v = some (.int (nI (cntN (ruleP x) S.1 n))) ∧ w1 = [(h, .inr (3, [.ref (a 0), .ref (a 1), .ref (a 2), .ref (a 3), .ref (a 4), .ref (a 5), .ref (a 6), .ref (a 7), .ref (a 8), .int (nI n), .int (zb ov), .int am])), (a 0, .inl (g.1, 600, .inl (F 0))), (a 1, .inl (g.1, 600, .inl (F 1))), (a 2, .inl (g.1, 600, .inl (F 2))), (a 3, .inl (g.1, 600, .inl (F 3))), (a 4, .inl (g.1, 600, .inl (F 4))), (a 5, .inl (g.1, 600, .inl (F 5))), (a 6, .inl (g.1, 600, .inl (F 6))), (a 7, .inl (g.1, 1024, .inl (F 7))), (a 8, .inl (g.2.1, 600, .inl (F 8)))]) := by
  refine z_met (cc := cX3_madeBy) (maxL := 4) (ret := (some .int)) (lv := [(0, .ref h), (1, .int x)]) (by decide) rfl (Nat.le_of_ble_eq_true rfl) rfl ?_
  intro X hXD hXg hXl hnm C E
  subst hXD hXg hXl
  have C : zC X cX3_madeBy 4 RX3 wsX3_madeBy ({ frames := 0, cells := 0, slots := 0, locals := 0 } : Room) := C
  have hn6 := hR.le
  refine z_iconst (q := 1) C k_iconst_0 dX3_madeBy_0 rfl ?_
  refine z_istore_n (q := 2) (lv' := [(2, .int (nI 0)), (0, .ref h), (1, .int x)]) C rfl dX3_madeBy_1 rfl (by decide) rfl ?_
  refine z_iconst (q := 3) C k_iconst_0 dX3_madeBy_2 rfl ?_
  refine z_istore_n (q := 4) (lv' := [(3, .int (nI 0)), (2, .int (nI 0)), (0, .ref h), (1, .int x)]) C rfl dX3_madeBy_3 rfl (by decide) rfl ?_
  refine z_lv [2, 3, 1, 0] rfl ?_
  exact l_X3_madeBy h a F n ov am S x hR C E (n + 1) 0 (by omega) (by omega)

set_option maxHeartbeats 4000000 in
set_option maxRecDepth 100000 in
theorem l_X3_literalSubjects {X : zX} (h : Nat) (a : Nat → Nat) (F : Nat → Nat → Int32) (n : Nat) (ov : Bool) (am : Int32) (S : RSt)  (hR : rowsRep F n ov S) (C : zC X cX3_literalSubjects 3 RX3 wsX3_literalSubjects ({ frames := 0, cells := 0, slots := 0, locals := 0 } : Room)) (E : zE X (some .int) 0 0 (fun v w1 => v = some (.int (nI (cntN litP S.1 n))) ∧ w1 = [(h, .inr (3, [.ref (a 0), .ref (a 1), .ref (a 2), .ref (a 3), .ref (a 4), .ref (a 5), .ref (a 6), .ref (a 7), .ref (a 8), .int (nI n), .int (zb ov), .int am])), (a 0, .inl (X.cI, 600, .inl (F 0))), (a 1, .inl (X.cI, 600, .inl (F 1))), (a 2, .inl (X.cI, 600, .inl (F 2))), (a 3, .inl (X.cI, 600, .inl (F 3))), (a 4, .inl (X.cI, 600, .inl (F 4))), (a 5, .inl (X.cI, 600, .inl (F 5))), (a 6, .inl (X.cI, 600, .inl (F 6))), (a 7, .inl (X.cI, 1024, .inl (F 7))), (a 8, .inl (X.cZ, 600, .inl (F 8)))])) : ∀ (k : Nat) (i : Nat), i ≤ n → n < i + k → zW X 3 [(h, .inr (3, [.ref (a 0), .ref (a 1), .ref (a 2), .ref (a 3), .ref (a 4), .ref (a 5), .ref (a 6), .ref (a 7), .ref (a 8), .int (nI n), .int (zb ov), .int am])), (a 0, .inl (X.cI, 600, .inl (F 0))), (a 1, .inl (X.cI, 600, .inl (F 1))), (a 2, .inl (X.cI, 600, .inl (F 2))), (a 3, .inl (X.cI, 600, .inl (F 3))), (a 4, .inl (X.cI, 600, .inl (F 4))), (a 5, .inl (X.cI, 600, .inl (F 5))), (a 6, .inl (X.cI, 600, .inl (F 6))), (a 7, .inl (X.cI, 1024, .inl (F 7))), (a 8, .inl (X.cZ, 600, .inl (F 8)))] 0 0 4 [(0, .ref h), (1, .int (nI (cntN litP S.1 i))), (2, .int (nI i))] [] := by
  have hiX3 : ∀ w ∈ u_ws RX3 TX3 12, w ∈ wsX3_literalSubjects := by decide +kernel
  have hf9 : Cond.fieldLink RX3 9 "RdfsRules$Rows" "subjects" "[I" ∈ wsX3_literalSubjects := by decide +kernel
  have hf40 : Cond.fieldLink RX3 40 "RdfsRules$Rows" "size" "I" ∈ wsX3_literalSubjects := by decide +kernel
  intro k
  induction k with
  | zero =>
    intro i hi hk
    exfalso
    omega
  | succ k ih =>
    intro i hi hk
    have hn6 := hR.le
    have hcl := cntN_le litP S.1 i
    refine z_iload_n (q := 5) C 2 rfl rfl dX3_literalSubjects_4 rfl ?_
    refine z_aload_n (q := 6) C 0 rfl rfl dX3_literalSubjects_5 rfl ?_
    refine z_get (q := 9) (v := .int (nI n)) C hiX3 0 9 rfl rfl (by decide) hf40 rfl dX3_literalSubjects_6 rfl ?_
    refine z_icmp_ge_n (q := 12) (tgt := 33) C (by omega) (by omega) dX3_literalSubjects_9 (by decide) rfl (fun c9 => ?_) (fun c9 => ?_)
    · skip
      refine z_iload_n (q := 34) C 1 rfl rfl dX3_literalSubjects_33 rfl ?_
      refine z_iret C E (by omega) (by omega) dX3_literalSubjects_34 ?_
      have hin : i = n := by omega
      subst hin
      exact ⟨rfl, rfl⟩
    · skip
      have hlt : i < n := c9
      refine z_aload_n (q := 13) C 0 rfl rfl dX3_literalSubjects_12 rfl ?_
      refine z_get (q := 16) (v := .ref (a 0)) C hiX3 0 0 rfl rfl (by decide) hf9 rfl dX3_literalSubjects_13 rfl ?_
      refine z_iload_n (q := 17) C 2 rfl rfl dX3_literalSubjects_16 rfl ?_
      refine z_iald (q := 18) C 1 rfl (i := i) (by omega) (by decide) dX3_literalSubjects_17 rfl ?_
      refine z_sipush (q := 21) C k_sipush_300 dX3_literalSubjects_18 rfl ?_
      refine z_icmp_lt_i (q := 24) (tgt := 27) C rfl ti_300 dX3_literalSubjects_21 (by decide) rfl (fun c21 => ?_) (fun c21 => ?_)
      · skip
        refine z_iinc (q := 30) (v := nI (i + 1)) (lv' := [(2, .int (nI (i + 1))), (0, .ref h), (1, .int (nI (cntN litP S.1 i)))]) C 2 dX3_literalSubjects_27 rfl rfl (k_inc1 i) (by decide) rfl ?_
        refine z_goto (tgt := 4) C dX3_literalSubjects_30 (by decide) ?_
        refine z_lv [1, 2, 0] rfl ?_
        have hc : litP (S.1.getD i r0) = false := decide_eq_false (by rw [← hR.at hlt (by omega)]; omega)
        rw [← cntN_f hc]
        exact ih (i + 1) (by omega) (by omega)
      · skip
        refine z_iinc (q := 27) (v := nI (cntN litP S.1 i + 1)) (lv' := [(1, .int (nI (cntN litP S.1 i + 1))), (0, .ref h), (2, .int (nI i))]) C 1 dX3_literalSubjects_24 rfl rfl (k_inc1 (cntN litP S.1 i)) (by decide) rfl ?_
        refine z_iinc (q := 30) (v := nI (i + 1)) (lv' := [(2, .int (nI (i + 1))), (1, .int (nI (cntN litP S.1 i + 1))), (0, .ref h)]) C 2 dX3_literalSubjects_27 rfl rfl (k_inc1 i) (by decide) rfl ?_
        refine z_goto (tgt := 4) C dX3_literalSubjects_30 (by decide) ?_
        refine z_lv [2, 1, 0] rfl ?_
        have hc : litP (S.1.getD i r0) = true := decide_eq_true (by rw [← hR.at hlt (by omega)]; omega)
        rw [← cntN_t hc]
        exact ih (i + 1) (by omega) (by omega)

set_option maxHeartbeats 4000000 in
set_option maxRecDepth 100000 in
theorem c_X3_literalSubjects (l : Launch) (D : va_G) (g : ClassId × ClassId × ClassId) (h : Nat) (a : Nat → Nat) (F : Nat → Nat → Int32) (n : Nat) (ov : Bool) (am : Int32) (S : RSt)  (hR : rowsRep F n ov S) : zM l yX3_literalSubjects wsX3_literalSubjects ({ frames := 0, cells := 0, slots := 0, locals := 0 } : Room) D g [.ref h] [(h, .inr (3, [.ref (a 0), .ref (a 1), .ref (a 2), .ref (a 3), .ref (a 4), .ref (a 5), .ref (a 6), .ref (a 7), .ref (a 8), .int (nI n), .int (zb ov), .int am])), (a 0, .inl (g.1, 600, .inl (F 0))), (a 1, .inl (g.1, 600, .inl (F 1))), (a 2, .inl (g.1, 600, .inl (F 2))), (a 3, .inl (g.1, 600, .inl (F 3))), (a 4, .inl (g.1, 600, .inl (F 4))), (a 5, .inl (g.1, 600, .inl (F 5))), (a 6, .inl (g.1, 600, .inl (F 6))), (a 7, .inl (g.1, 1024, .inl (F 7))), (a 8, .inl (g.2.1, 600, .inl (F 8)))] 0 0 (fun v w1 => v = some (.int (nI (cntN litP S.1 n))) ∧ w1 = [(h, .inr (3, [.ref (a 0), .ref (a 1), .ref (a 2), .ref (a 3), .ref (a 4), .ref (a 5), .ref (a 6), .ref (a 7), .ref (a 8), .int (nI n), .int (zb ov), .int am])), (a 0, .inl (g.1, 600, .inl (F 0))), (a 1, .inl (g.1, 600, .inl (F 1))), (a 2, .inl (g.1, 600, .inl (F 2))), (a 3, .inl (g.1, 600, .inl (F 3))), (a 4, .inl (g.1, 600, .inl (F 4))), (a 5, .inl (g.1, 600, .inl (F 5))), (a 6, .inl (g.1, 600, .inl (F 6))), (a 7, .inl (g.1, 1024, .inl (F 7))), (a 8, .inl (g.2.1, 600, .inl (F 8)))]) := by
  refine z_met (cc := cX3_literalSubjects) (maxL := 3) (ret := (some .int)) (lv := [(0, .ref h)]) (by decide) rfl (Nat.le_of_ble_eq_true rfl) rfl ?_
  intro X hXD hXg hXl hnm C E
  subst hXD hXg hXl
  have C : zC X cX3_literalSubjects 3 RX3 wsX3_literalSubjects ({ frames := 0, cells := 0, slots := 0, locals := 0 } : Room) := C
  have hn6 := hR.le
  refine z_iconst (q := 1) C k_iconst_0 dX3_literalSubjects_0 rfl ?_
  refine z_istore_n (q := 2) (lv' := [(1, .int (nI 0)), (0, .ref h)]) C rfl dX3_literalSubjects_1 rfl (by decide) rfl ?_
  refine z_iconst (q := 3) C k_iconst_0 dX3_literalSubjects_2 rfl ?_
  refine z_istore_n (q := 4) (lv' := [(2, .int (nI 0)), (1, .int (nI 0)), (0, .ref h)]) C rfl dX3_literalSubjects_3 rfl (by decide) rfl ?_
  refine z_lv [2, 1, 0] rfl ?_
  exact l_X3_literalSubjects h a F n ov am S hR C E (n + 1) 0 (by omega) (by omega)

set_option maxHeartbeats 4000000 in
set_option maxRecDepth 100000 in
theorem l_X3_membershipsBeyondAxioms {X : zX} (h : Nat) (a : Nat → Nat) (F : Nat → Nat → Int32) (n : Nat) (ov : Bool)  (S : RSt) (m : Nat) (hm : m ≤ 9) (hR : rowsRep F n ov S) (C : zC X cX3_membershipsBeyondAxioms 3 RX3 wsX3_membershipsBeyondAxioms ({ frames := 0, cells := 0, slots := 0, locals := 0 } : Room)) (E : zE X (some .int) 0 0 (fun v w1 => v = some (.int (nI (cntN (memP m) S.1 n))) ∧ w1 = [(h, .inr (3, [.ref (a 0), .ref (a 1), .ref (a 2), .ref (a 3), .ref (a 4), .ref (a 5), .ref (a 6), .ref (a 7), .ref (a 8), .int (nI n), .int (zb ov), .int (nI m)])), (a 0, .inl (X.cI, 600, .inl (F 0))), (a 1, .inl (X.cI, 600, .inl (F 1))), (a 2, .inl (X.cI, 600, .inl (F 2))), (a 3, .inl (X.cI, 600, .inl (F 3))), (a 4, .inl (X.cI, 600, .inl (F 4))), (a 5, .inl (X.cI, 600, .inl (F 5))), (a 6, .inl (X.cI, 600, .inl (F 6))), (a 7, .inl (X.cI, 1024, .inl (F 7))), (a 8, .inl (X.cZ, 600, .inl (F 8)))])) : ∀ (k : Nat) (i : Nat), i ≤ n → n < i + k → zW X 3 [(h, .inr (3, [.ref (a 0), .ref (a 1), .ref (a 2), .ref (a 3), .ref (a 4), .ref (a 5), .ref (a 6), .ref (a 7), .ref (a 8), .int (nI n), .int (zb ov), .int (nI m)])), (a 0, .inl (X.cI, 600, .inl (F 0))), (a 1, .inl (X.cI, 600, .inl (F 1))), (a 2, .inl (X.cI, 600, .inl (F 2))), (a 3, .inl (X.cI, 600, .inl (F 3))), (a 4, .inl (X.cI, 600, .inl (F 4))), (a 5, .inl (X.cI, 600, .inl (F 5))), (a 6, .inl (X.cI, 600, .inl (F 6))), (a 7, .inl (X.cI, 1024, .inl (F 7))), (a 8, .inl (X.cZ, 600, .inl (F 8)))] 0 0 4 [(0, .ref h), (1, .int (nI (cntN (memP m) S.1 i))), (2, .int (nI i))] [] := by
  have hiX3 : ∀ w ∈ u_ws RX3 TX3 12, w ∈ wsX3_membershipsBeyondAxioms := by decide +kernel
  have hf15 : Cond.fieldLink RX3 15 "RdfsRules$Rows" "properties" "[I" ∈ wsX3_membershipsBeyondAxioms := by decide +kernel
  have hf40 : Cond.fieldLink RX3 40 "RdfsRules$Rows" "size" "I" ∈ wsX3_membershipsBeyondAxioms := by decide +kernel
  have hf48 : Cond.fieldLink RX3 48 "RdfsRules$Rows" "axiomMemberships" "I" ∈ wsX3_membershipsBeyondAxioms := by decide +kernel
  intro k
  induction k with
  | zero =>
    intro i hi hk
    exfalso
    omega
  | succ k ih =>
    intro i hi hk
    have hn6 := hR.le
    have hcl := cntN_le (memP m) S.1 i
    refine z_iload_n (q := 5) C 2 rfl rfl dX3_membershipsBeyondAxioms_4 rfl ?_
    refine z_aload_n (q := 6) C 0 rfl rfl dX3_membershipsBeyondAxioms_5 rfl ?_
    refine z_get (q := 9) (v := .int (nI n)) C hiX3 0 9 rfl rfl (by decide) hf40 rfl dX3_membershipsBeyondAxioms_6 rfl ?_
    refine z_icmp_ge_n (q := 12) (tgt := 48) C (by omega) (by omega) dX3_membershipsBeyondAxioms_9 (by decide) rfl (fun c9 => ?_) (fun c9 => ?_)
    · skip
      refine z_iload_n (q := 49) C 1 rfl rfl dX3_membershipsBeyondAxioms_48 rfl ?_
      refine z_iret C E (by omega) (by omega) dX3_membershipsBeyondAxioms_49 ?_
      have hin : i = n := by omega
      subst hin
      exact ⟨rfl, rfl⟩
    · skip
      have hlt : i < n := c9
      refine z_aload_n (q := 13) C 0 rfl rfl dX3_membershipsBeyondAxioms_12 rfl ?_
      refine z_get (q := 16) (v := .ref (a 1)) C hiX3 0 1 rfl rfl (by decide) hf15 rfl dX3_membershipsBeyondAxioms_13 rfl ?_
      refine z_iload_n (q := 17) C 2 rfl rfl dX3_membershipsBeyondAxioms_16 rfl ?_
      refine z_iald (q := 18) C 2 rfl (i := i) (by omega) (by decide) dX3_membershipsBeyondAxioms_17 rfl ?_
      refine z_bipush (q := 20) C k_bipush_20 dX3_membershipsBeyondAxioms_18 rfl ?_
      refine z_aload_n (q := 21) C 0 rfl rfl dX3_membershipsBeyondAxioms_20 rfl ?_
      refine z_get (q := 24) (v := .int (nI m)) C hiX3 0 11 rfl rfl (by decide) hf48 rfl dX3_membershipsBeyondAxioms_21 rfl ?_
      refine z_iadd (q := 25) C dX3_membershipsBeyondAxioms_24 rfl ?_
      refine z_eqi (y := nI (20 + m)) (nI_add 20 m) ?_
      refine z_icmp_lt_i (q := 28) (tgt := 42) C rfl (nI_toInt (n := 20 + m) (by omega)) dX3_membershipsBeyondAxioms_25 (by decide) rfl (fun c25 => ?_) (fun c25 => ?_)
      · skip
        refine z_iinc (q := 45) (v := nI (i + 1)) (lv' := [(2, .int (nI (i + 1))), (0, .ref h), (1, .int (nI (cntN (memP m) S.1 i)))]) C 2 dX3_membershipsBeyondAxioms_42 rfl rfl (k_inc1 i) (by decide) rfl ?_
        refine z_goto (tgt := 4) C dX3_membershipsBeyondAxioms_45 (by decide) ?_
        refine z_lv [1, 2, 0] rfl ?_
        have hc : (memP m) (S.1.getD i r0) = false := decide_eq_false (by rw [← hR.at hlt (by omega)]; omega)
        rw [← cntN_f hc]
        exact ih (i + 1) (by omega) (by omega)
      · skip
        refine z_aload_n (q := 29) C 0 rfl rfl dX3_membershipsBeyondAxioms_28 rfl ?_
        refine z_get (q := 32) (v := .ref (a 1)) C hiX3 0 1 rfl rfl (by decide) hf15 rfl dX3_membershipsBeyondAxioms_29 rfl ?_
        refine z_iload_n (q := 33) C 2 rfl rfl dX3_membershipsBeyondAxioms_32 rfl ?_
        refine z_iald (q := 34) C 2 rfl (i := i) (by omega) (by decide) dX3_membershipsBeyondAxioms_33 rfl ?_
        refine z_bipush (q := 36) C k_bipush_29 dX3_membershipsBeyondAxioms_34 rfl ?_
        refine z_icmp_ge_i (q := 39) (tgt := 42) C rfl ti_29 dX3_membershipsBeyondAxioms_36 (by decide) rfl (fun c36 => ?_) (fun c36 => ?_)
        · skip
          refine z_iinc (q := 45) (v := nI (i + 1)) (lv' := [(2, .int (nI (i + 1))), (0, .ref h), (1, .int (nI (cntN (memP m) S.1 i)))]) C 2 dX3_membershipsBeyondAxioms_42 rfl rfl (k_inc1 i) (by decide) rfl ?_
          refine z_goto (tgt := 4) C dX3_membershipsBeyondAxioms_45 (by decide) ?_
          refine z_lv [1, 2, 0] rfl ?_
          have hc : (memP m) (S.1.getD i r0) = false := decide_eq_false (by rw [← hR.at hlt (by omega)]; omega)
          rw [← cntN_f hc]
          exact ih (i + 1) (by omega) (by omega)
        · skip
          refine z_iinc (q := 42) (v := nI (cntN (memP m) S.1 i + 1)) (lv' := [(1, .int (nI (cntN (memP m) S.1 i + 1))), (0, .ref h), (2, .int (nI i))]) C 1 dX3_membershipsBeyondAxioms_39 rfl rfl (k_inc1 (cntN (memP m) S.1 i)) (by decide) rfl ?_
          refine z_iinc (q := 45) (v := nI (i + 1)) (lv' := [(2, .int (nI (i + 1))), (1, .int (nI (cntN (memP m) S.1 i + 1))), (0, .ref h)]) C 2 dX3_membershipsBeyondAxioms_42 rfl rfl (k_inc1 i) (by decide) rfl ?_
          refine z_goto (tgt := 4) C dX3_membershipsBeyondAxioms_45 (by decide) ?_
          refine z_lv [2, 1, 0] rfl ?_
          have hc : (memP m) (S.1.getD i r0) = true := decide_eq_true (by rw [← hR.at hlt (by omega)]; omega)
          rw [← cntN_t hc]
          exact ih (i + 1) (by omega) (by omega)

set_option maxHeartbeats 4000000 in
set_option maxRecDepth 100000 in
theorem c_X3_membershipsBeyondAxioms (l : Launch) (D : va_G) (g : ClassId × ClassId × ClassId) (h : Nat) (a : Nat → Nat) (F : Nat → Nat → Int32) (n : Nat) (ov : Bool)  (S : RSt) (m : Nat) (hm : m ≤ 9) (hR : rowsRep F n ov S) : zM l yX3_membershipsBeyondAxioms wsX3_membershipsBeyondAxioms ({ frames := 0, cells := 0, slots := 0, locals := 0 } : Room) D g [.ref h] [(h, .inr (3, [.ref (a 0), .ref (a 1), .ref (a 2), .ref (a 3), .ref (a 4), .ref (a 5), .ref (a 6), .ref (a 7), .ref (a 8), .int (nI n), .int (zb ov), .int (nI m)])), (a 0, .inl (g.1, 600, .inl (F 0))), (a 1, .inl (g.1, 600, .inl (F 1))), (a 2, .inl (g.1, 600, .inl (F 2))), (a 3, .inl (g.1, 600, .inl (F 3))), (a 4, .inl (g.1, 600, .inl (F 4))), (a 5, .inl (g.1, 600, .inl (F 5))), (a 6, .inl (g.1, 600, .inl (F 6))), (a 7, .inl (g.1, 1024, .inl (F 7))), (a 8, .inl (g.2.1, 600, .inl (F 8)))] 0 0 (fun v w1 => v = some (.int (nI (cntN (memP m) S.1 n))) ∧ w1 = [(h, .inr (3, [.ref (a 0), .ref (a 1), .ref (a 2), .ref (a 3), .ref (a 4), .ref (a 5), .ref (a 6), .ref (a 7), .ref (a 8), .int (nI n), .int (zb ov), .int (nI m)])), (a 0, .inl (g.1, 600, .inl (F 0))), (a 1, .inl (g.1, 600, .inl (F 1))), (a 2, .inl (g.1, 600, .inl (F 2))), (a 3, .inl (g.1, 600, .inl (F 3))), (a 4, .inl (g.1, 600, .inl (F 4))), (a 5, .inl (g.1, 600, .inl (F 5))), (a 6, .inl (g.1, 600, .inl (F 6))), (a 7, .inl (g.1, 1024, .inl (F 7))), (a 8, .inl (g.2.1, 600, .inl (F 8)))]) := by
  refine z_met (cc := cX3_membershipsBeyondAxioms) (maxL := 3) (ret := (some .int)) (lv := [(0, .ref h)]) (by decide) rfl (Nat.le_of_ble_eq_true rfl) rfl ?_
  intro X hXD hXg hXl hnm C E
  subst hXD hXg hXl
  have C : zC X cX3_membershipsBeyondAxioms 3 RX3 wsX3_membershipsBeyondAxioms ({ frames := 0, cells := 0, slots := 0, locals := 0 } : Room) := C
  have hn6 := hR.le
  refine z_iconst (q := 1) C k_iconst_0 dX3_membershipsBeyondAxioms_0 rfl ?_
  refine z_istore_n (q := 2) (lv' := [(1, .int (nI 0)), (0, .ref h)]) C rfl dX3_membershipsBeyondAxioms_1 rfl (by decide) rfl ?_
  refine z_iconst (q := 3) C k_iconst_0 dX3_membershipsBeyondAxioms_2 rfl ?_
  refine z_istore_n (q := 4) (lv' := [(2, .int (nI 0)), (1, .int (nI 0)), (0, .ref h)]) C rfl dX3_membershipsBeyondAxioms_3 rfl (by decide) rfl ?_
  refine z_lv [2, 1, 0] rfl ?_
  exact l_X3_membershipsBeyondAxioms h a F n ov S m hm hR C E (n + 1) 0 (by omega) (by omega)
end
section
/-! marks: what a row rests on -/
def refOK (L : List Row) : Prop := ∀ i j, i < L.length → (j = 4 ∨ j = 5) → L.getD i r0 j = (-1) ∨ ∃ m, m < i ∧ L.getD i r0 j = nI m
def mk1 (x : Int32) (M : Nat → Bool) : Nat → Bool := fun q => M q || (decide (¬ x = (-1)) && decide (x = nI q))
def mkStep (L : List Row) (M : Nat → Bool) (k : Nat) : Nat → Bool := if M k = true then mk1 (L.getD k r0 5) (mk1 (L.getD k r0 4) M) else M
def mkDown (L : List Row) : Nat → (Nat → Bool) → Nat → Bool
  | 0, M => M
  | k + 1, M => mkDown L k (mkStep L M k)
def marksL (L : List Row) (i : Nat) : Nat → Bool := mkDown L (i + 1) (fun q => decide (q = i))
theorem mk1_row {M : Nat → Bool} {j q : Nat} (hj : j < 2 ^ 31) (hq : q < 2 ^ 31) : mk1 (nI j) M q = if q = j then true else M q := by
  unfold mk1
  have h1 : decide (¬ nI j = (-1)) = true := decide_eq_true (nI_nm1 hj)
  rw [h1, Bool.true_and]
  by_cases h : q = j
  · rw [if_pos h, h, decide_eq_true rfl, Bool.or_true]
  · rw [if_neg h, decide_eq_false (fun e => h ((nI_eq hq hj).mp e.symm)), Bool.or_false]
theorem mk1_none {M : Nat → Bool} {q : Nat} : mk1 (-1) M q = M q := by
  unfold mk1
  rw [decide_eq_false (fun h => h rfl), Bool.false_and, Bool.or_false]
/-- the arrays with another array of marks -/
def setF8 (F : Nat → Nat → Int32) (f : Nat → Int32) : Nat → Nat → Int32 := fun k => match k with
  | 8 => f
  | m => F m
theorem rowsRep.set8 {F : Nat → Nat → Int32} {n : Nat} {ov : Bool} {S : RSt} (h : rowsRep F n ov S) (f : Nat → Int32) : rowsRep (setF8 F f) n ov S := by
  obtain ⟨h1, h2, h3, h4, h5, h6⟩ := h
  refine ⟨h1, h2, h3, h4, fun i j hi hj => ?_, h6⟩
  rw [← h5 i j hi hj]
  match j, hj with
  | 0, _ => rfl
  | 1, _ => rfl
  | 2, _ => rfl
  | 3, _ => rfl
  | 4, _ => rfl
  | 5, _ => rfl
  | 6, _ => rfl

set_option maxHeartbeats 4000000 in
set_option maxRecDepth 100000 in
theorem c_X3_markIfRow (l : Launch) (D : va_G) (g : ClassId × ClassId × ClassId) (h : Nat) (a : Nat → Nat) (n : Nat) (ov : Bool) (am : Int32) (f8 : Nat → Int32) (M : Nat → Bool) (i : Nat) (hi : i < 600) (hM : ∀ q, q ≤ i → f8 q = zb (M q)) (x : Int32) (hx : x = (-1) ∨ ∃ j, j < 600 ∧ x = nI j) : zM l yX3_markIfRow wsX3_markIfRow ({ frames := 0, cells := 0, slots := 0, locals := 0 } : Room) D g [.ref h, .int x] [(h, .inr (3, [.ref (a 0), .ref (a 1), .ref (a 2), .ref (a 3), .ref (a 4), .ref (a 5), .ref (a 6), .ref (a 7), .ref (a 8), .int (nI n), .int (zb ov), .int am])), (a 8, .inl (g.2.1, 600, .inl f8))] 0 0 (fun v w1 => ∃ f1 : Nat → Int32, (∀ q, q ≤ i → f1 q = zb (mk1 x M q)) ∧ v = none ∧ w1 = [(h, .inr (3, [.ref (a 0), .ref (a 1), .ref (a 2), .ref (a 3), .ref (a 4), .ref (a 5), .ref (a 6), .ref (a 7), .ref (a 8), .int (nI n), .int (zb ov), .int am])), (a 8, .inl (g.2.1, 600, .inl f1))]) := by
  refine z_met (cc := cX3_markIfRow) (maxL := 2) (ret := none) (lv := [(0, .ref h), (1, .int x)]) (by decide) rfl (Nat.le_of_ble_eq_true rfl) rfl ?_
  intro X hXD hXg hXl hnm C E
  subst hXD hXg hXl
  have C : zC X cX3_markIfRow 2 RX3 wsX3_markIfRow ({ frames := 0, cells := 0, slots := 0, locals := 0 } : Room) := C
  have hiX3 : ∀ w ∈ u_ws RX3 TX3 12, w ∈ wsX3_markIfRow := by decide +kernel
  have hf36 : Cond.fieldLink RX3 36 "RdfsRules$Rows" "rests" "[Z" ∈ wsX3_markIfRow := by decide +kernel
  refine z_iload_n (q := 1) C 1 rfl rfl dX3_markIfRow_0 rfl ?_
  refine z_iconst (q := 2) C k_iconst_m1 dX3_markIfRow_1 rfl ?_
  refine z_icmp_eq (q := 5) (tgt := 12) C dX3_markIfRow_2 (by decide) rfl (fun c2 => ?_) (fun c2 => ?_)
  · skip
    refine z_vret C E (by omega) (by omega) dX3_markIfRow_12 ?_
    subst c2
    exact ⟨f8, fun q hq => by rw [mk1_none]; exact hM q hq, rfl, rfl⟩
  · skip
    obtain ⟨j, hj, ej⟩ := hx.resolve_left c2
    subst ej
    refine z_aload_n (q := 6) C 0 rfl rfl dX3_markIfRow_5 rfl ?_
    refine z_get (q := 9) (v := .ref (a 8)) C hiX3 0 8 rfl rfl (by decide) hf36 rfl dX3_markIfRow_6 rfl ?_
    refine z_iload_n (q := 10) C 1 rfl rfl dX3_markIfRow_9 rfl ?_
    refine z_iconst (q := 11) C k_iconst_1 dX3_markIfRow_10 rfl ?_
    refine z_zast (q := 12) (ws' := [(h, .inr (3, [.ref (a 0), .ref (a 1), .ref (a 2), .ref (a 3), .ref (a 4), .ref (a 5), .ref (a 6), .ref (a 7), .ref (a 8), .int (nI n), .int (zb ov), .int am])), (a 8, .inl (X.cZ, 600, .inl (upd f8 j (nI 1))))]) C 1 rfl (i := j) (by decide) (by omega) (by decide) dX3_markIfRow_11 rfl rfl ?_
    refine z_vret C E (by omega) (by omega) dX3_markIfRow_12 ?_
    exact ⟨upd f8 j (nI 1), fun q hq => by rw [mk1_row (by omega) (by omega)]; show (if q = j then nI 1 else f8 q) = _; split; rfl; exact hM q hq, rfl, rfl⟩

set_option maxHeartbeats 4000000 in
set_option maxRecDepth 100000 in
theorem l_X3_markRest2 {X : zX} (h : Nat) (a : Nat → Nat) (F : Nat → Nat → Int32) (n : Nat) (ov : Bool) (am : Int32) (S : RSt) (hR : rowsRep F n ov S) (i : Nat) (hi : i < n) (hK : refOK S.1) (C : zC X cX3_markRest 3 RX3 wsX3_markRest ({ frames := 1, cells := 0, slots := 0, locals := 21 } : Room)) (E : zE X none 0 0 (fun v w1 => ∃ f1 : Nat → Int32, (∀ q, q ≤ i → f1 q = zb (marksL S.1 i q)) ∧ v = none ∧ w1 = [(h, .inr (3, [.ref (a 0), .ref (a 1), .ref (a 2), .ref (a 3), .ref (a 4), .ref (a 5), .ref (a 6), .ref (a 7), .ref (a 8), .int (nI n), .int (zb ov), .int am])), (a 0, .inl (X.cI, 600, .inl (F 0))), (a 1, .inl (X.cI, 600, .inl (F 1))), (a 2, .inl (X.cI, 600, .inl (F 2))), (a 3, .inl (X.cI, 600, .inl (F 3))), (a 4, .inl (X.cI, 600, .inl (F 4))), (a 5, .inl (X.cI, 600, .inl (F 5))), (a 6, .inl (X.cI, 600, .inl (F 6))), (a 7, .inl (X.cI, 1024, .inl (F 7))), (a 8, .inl (X.cZ, 600, .inl f1))])) : ∀ (t k0 : Nat) (f8 : Nat → Int32) (M : Nat → Bool), k0 ≤ i + 1 ∧ k0 < t → (∀ q, q ≤ i → f8 q = zb (M q)) → mkDown S.1 k0 M = marksL S.1 i → zW X 3 [(h, .inr (3, [.ref (a 0), .ref (a 1), .ref (a 2), .ref (a 3), .ref (a 4), .ref (a 5), .ref (a 6), .ref (a 7), .ref (a 8), .int (nI n), .int (zb ov), .int am])), (a 0, .inl (X.cI, 600, .inl (F 0))), (a 1, .inl (X.cI, 600, .inl (F 1))), (a 2, .inl (X.cI, 600, .inl (F 2))), (a 3, .inl (X.cI, 600, .inl (F 3))), (a 4, .inl (X.cI, 600, .inl (F 4))), (a 5, .inl (X.cI, 600, .inl (F 5))), (a 6, .inl (X.cI, 600, .inl (F 6))), (a 7, .inl (X.cI, 1024, .inl (F 7))), (a 8, .inl (X.cZ, 600, .inl f8))] 0 0 31 [(0, .ref h), (1, .int (nI i)), (2, .int (nI k0 + (-1)))] [] := by
  have hiX3 : ∀ w ∈ u_ws RX3 TX3 12, w ∈ wsX3_markRest := by decide +kernel
  have hf24 : Cond.fieldLink RX3 24 "RdfsRules$Rows" "firsts" "[I" ∈ wsX3_markRest := by decide +kernel
  have hf27 : Cond.fieldLink RX3 27 "RdfsRules$Rows" "seconds" "[I" ∈ wsX3_markRest := by decide +kernel
  have hf36 : Cond.fieldLink RX3 36 "RdfsRules$Rows" "rests" "[Z" ∈ wsX3_markRest := by decide +kernel
  intro t
  induction t with
  | zero =>
    intro k0 f8 M hk hM hfin
    omega
  | succ t ih =>
    intro k0 f8 M hk hM hfin
    have hn6 := hR.le
    cases k0 with
    | zero =>
      rw [show nI 0 + (-1) = (-1 : Int32) by decide]
      refine z_iload_n (q := 32) C 2 rfl rfl dX3_markRest_31 rfl ?_
      refine z_if_lt_i (q := 35) (tgt := 70) C ti_m1 dX3_markRest_32 (by decide) rfl (fun c32 => ?_) (fun c32 => ?_)
      · skip
        refine z_vret C E (by omega) (by omega) dX3_markRest_70 ?_
        exact ⟨f8, fun q hq => by rw [hM q hq, ← hfin]; rfl, rfl, rfl⟩
      · skip
        exact absurd c32 (by decide)
    | succ k =>
      rw [pk_m1 k]
      refine z_iload_n (q := 32) C 2 rfl rfl dX3_markRest_31 rfl ?_
      refine z_if_lt_n (q := 35) (tgt := 70) C (by omega) dX3_markRest_32 (by decide) rfl (fun c32 => ?_) (fun c32 => ?_)
      · skip
        exact c32.elim
      · skip
        refine z_aload_n (q := 36) C 0 rfl rfl dX3_markRest_35 rfl ?_
        refine z_get (q := 39) (v := .ref (a 8)) C hiX3 0 8 rfl rfl (by decide) hf36 rfl dX3_markRest_36 rfl ?_
        refine z_iload_n (q := 40) C 2 rfl rfl dX3_markRest_39 rfl ?_
        refine z_zald (q := 41) C 9 rfl (i := k) (by omega) (by decide) dX3_markRest_40 rfl ?_
        refine z_if_eq_z (q := 44) (tgt := 64) C dX3_markRest_41 (by decide) rfl (fun c41 => ?_) (fun c41 => ?_)
        · skip
          refine z_iinc (q := 67) (v := (nI k) + (-1)) (lv' := [(2, .int ((nI k) + (-1))), (0, .ref h), (1, .int (nI i))]) C 2 dX3_markRest_64 rfl rfl rfl (by decide) rfl ?_
          refine z_goto (tgt := 31) C dX3_markRest_67 (by decide) ?_
          refine z_lv [1, 2, 0] rfl ?_
          have hmk : M k = false := zb_0.mp (by rw [← hM k (by omega)]; exact c41)
          exact ih k f8 M (by omega) hM (by rw [← hfin]; show mkDown S.1 k _ = mkDown S.1 k (mkStep S.1 M k); unfold mkStep; rw [if_neg (by rw [hmk]; decide)])
        · skip
          refine z_aload_n (q := 45) C 0 rfl rfl dX3_markRest_44 rfl ?_
          refine z_aload_n (q := 46) C 0 rfl rfl dX3_markRest_45 rfl ?_
          refine z_get (q := 49) (v := .ref (a 4)) C hiX3 0 4 rfl rfl (by decide) hf24 rfl dX3_markRest_46 rfl ?_
          refine z_iload_n (q := 50) C 2 rfl rfl dX3_markRest_49 rfl ?_
          refine z_iald (q := 51) C 5 rfl (i := k) (by omega) (by decide) dX3_markRest_50 rfl ?_
          refine z_callV (q := 54) (n := 1) (As := [.int ((F 4) k)]) (rest := []) (wr := [(a 0, .inl (X.cI, 600, .inl (F 0))), (a 1, .inl (X.cI, 600, .inl (F 1))), (a 2, .inl (X.cI, 600, .inl (F 2))), (a 3, .inl (X.cI, 600, .inl (F 3))), (a 4, .inl (X.cI, 600, .inl (F 4))), (a 5, .inl (X.cI, 600, .inl (F 5))), (a 6, .inl (X.cI, 600, .inl (F 6))), (a 7, .inl (X.cI, 1024, .inl (F 7)))]) C (c_X3_markIfRow X.l X.D X.2.1 h a n ov am f8 (M) i (by omega) hM (F 4 k) (by rw [hR.at (j := 4) (by omega) (by omega)]; exact (hK k 4 (by rw [hR.1]; omega) (by omega)).imp id (fun ⟨m, h1, h2⟩ => ⟨m, by omega, h2⟩))) gX3_markRest_X3_markIfRow rfl rfl rfl (by decide +kernel) (by decide) ⟨by first | decide | omega, by first | decide | omega⟩ 0 3 rfl rfl [0, 9] [1, 2, 3, 4, 5, 6, 7, 8] rfl rfl (by decide) (by decide) (by decide) rfl rfl (Nat.le_of_ble_eq_true rfl) dX3_markRest_51 rfl (fun v w1 hp => ?_)
          obtain ⟨f9, hf9, rfl, rfl⟩ := hp
          show zW X 3 [(a 0, .inl (X.cI, 600, .inl (F 0))), (a 1, .inl (X.cI, 600, .inl (F 1))), (a 2, .inl (X.cI, 600, .inl (F 2))), (a 3, .inl (X.cI, 600, .inl (F 3))), (a 4, .inl (X.cI, 600, .inl (F 4))), (a 5, .inl (X.cI, 600, .inl (F 5))), (a 6, .inl (X.cI, 600, .inl (F 6))), (a 7, .inl (X.cI, 1024, .inl (F 7))), (h, .inr (3, [.ref (a 0), .ref (a 1), .ref (a 2), .ref (a 3), .ref (a 4), .ref (a 5), .ref (a 6), .ref (a 7), .ref (a 8), .int (nI n), .int (zb ov), .int am])), (a 8, .inl (X.cZ, 600, .inl f9))] _ _ 54 _ []
          refine z_aload_n (q := 55) C 0 rfl rfl dX3_markRest_54 rfl ?_
          refine z_aload_n (q := 56) C 0 rfl rfl dX3_markRest_55 rfl ?_
          refine z_get (q := 59) (v := .ref (a 5)) C hiX3 8 5 rfl rfl (by decide) hf27 rfl dX3_markRest_56 rfl ?_
          refine z_iload_n (q := 60) C 2 rfl rfl dX3_markRest_59 rfl ?_
          refine z_iald (q := 61) C 5 rfl (i := k) (by omega) (by decide) dX3_markRest_60 rfl ?_
          refine z_callV (q := 64) (n := 1) (As := [.int ((F 5) k)]) (rest := []) (wr := [(a 0, .inl (X.cI, 600, .inl (F 0))), (a 1, .inl (X.cI, 600, .inl (F 1))), (a 2, .inl (X.cI, 600, .inl (F 2))), (a 3, .inl (X.cI, 600, .inl (F 3))), (a 4, .inl (X.cI, 600, .inl (F 4))), (a 5, .inl (X.cI, 600, .inl (F 5))), (a 6, .inl (X.cI, 600, .inl (F 6))), (a 7, .inl (X.cI, 1024, .inl (F 7)))]) C (c_X3_markIfRow X.l X.D X.2.1 h a n ov am f9 (mk1 (F 4 k) M) i (by omega) hf9 (F 5 k) (by rw [hR.at (j := 5) (by omega) (by omega)]; exact (hK k 5 (by rw [hR.1]; omega) (by omega)).imp id (fun ⟨m, h1, h2⟩ => ⟨m, by omega, h2⟩))) gX3_markRest_X3_markIfRow rfl rfl rfl (by decide +kernel) (by decide) ⟨by first | decide | omega, by first | decide | omega⟩ 0 3 rfl rfl [8, 9] [0, 1, 2, 3, 4, 5, 6, 7] rfl rfl (by decide) (by decide) (by decide) rfl rfl (Nat.le_of_ble_eq_true rfl) dX3_markRest_61 rfl (fun v w1 hp => ?_)
          obtain ⟨f10, hf10, rfl, rfl⟩ := hp
          show zW X 3 [(a 0, .inl (X.cI, 600, .inl (F 0))), (a 1, .inl (X.cI, 600, .inl (F 1))), (a 2, .inl (X.cI, 600, .inl (F 2))), (a 3, .inl (X.cI, 600, .inl (F 3))), (a 4, .inl (X.cI, 600, .inl (F 4))), (a 5, .inl (X.cI, 600, .inl (F 5))), (a 6, .inl (X.cI, 600, .inl (F 6))), (a 7, .inl (X.cI, 1024, .inl (F 7))), (h, .inr (3, [.ref (a 0), .ref (a 1), .ref (a 2), .ref (a 3), .ref (a 4), .ref (a 5), .ref (a 6), .ref (a 7), .ref (a 8), .int (nI n), .int (zb ov), .int am])), (a 8, .inl (X.cZ, 600, .inl f10))] _ _ 64 _ []
          refine z_iinc (q := 67) (v := (nI k) + (-1)) (lv' := [(2, .int ((nI k) + (-1))), (0, .ref h), (1, .int (nI i))]) C 2 dX3_markRest_64 rfl rfl rfl (by decide) rfl ?_
          refine z_goto (tgt := 31) C dX3_markRest_67 (by decide) ?_
          refine z_lv [1, 2, 0] rfl ?_
          refine z_ws (ws' := [(h, .inr (3, [.ref (a 0), .ref (a 1), .ref (a 2), .ref (a 3), .ref (a 4), .ref (a 5), .ref (a 6), .ref (a 7), .ref (a 8), .int (nI n), .int (zb ov), .int am])), (a 0, .inl (X.cI, 600, .inl (F 0))), (a 1, .inl (X.cI, 600, .inl (F 1))), (a 2, .inl (X.cI, 600, .inl (F 2))), (a 3, .inl (X.cI, 600, .inl (F 3))), (a 4, .inl (X.cI, 600, .inl (F 4))), (a 5, .inl (X.cI, 600, .inl (F 5))), (a 6, .inl (X.cI, 600, .inl (F 6))), (a 7, .inl (X.cI, 1024, .inl (F 7))), (a 8, .inl (X.cZ, 600, .inl f10))]) [8, 0, 1, 2, 3, 4, 5, 6, 7, 9] (by decide) rfl ?_
          exact ih k f10 (mk1 (F 5 k) (mk1 (F 4 k) M)) (by omega) hf10 (by rw [← hfin]; show mkDown S.1 k _ = mkDown S.1 k (mkStep S.1 M k); unfold mkStep; rw [if_pos (zb_n0.mp (by rw [← hM k (by omega)]; exact c41)), hR.at (j := 5) (by omega) (by omega), hR.at (j := 4) (by omega) (by omega)])

set_option maxHeartbeats 4000000 in
set_option maxRecDepth 100000 in
theorem l_X3_markRest {X : zX} (h : Nat) (a : Nat → Nat) (F : Nat → Nat → Int32) (n : Nat) (ov : Bool) (am : Int32) (S : RSt) (hR : rowsRep F n ov S) (i : Nat) (hi : i < n) (hK : refOK S.1) (C : zC X cX3_markRest 3 RX3 wsX3_markRest ({ frames := 1, cells := 0, slots := 0, locals := 21 } : Room)) (E : zE X none 0 0 (fun v w1 => ∃ f1 : Nat → Int32, (∀ q, q ≤ i → f1 q = zb (marksL S.1 i q)) ∧ v = none ∧ w1 = [(h, .inr (3, [.ref (a 0), .ref (a 1), .ref (a 2), .ref (a 3), .ref (a 4), .ref (a 5), .ref (a 6), .ref (a 7), .ref (a 8), .int (nI n), .int (zb ov), .int am])), (a 0, .inl (X.cI, 600, .inl (F 0))), (a 1, .inl (X.cI, 600, .inl (F 1))), (a 2, .inl (X.cI, 600, .inl (F 2))), (a 3, .inl (X.cI, 600, .inl (F 3))), (a 4, .inl (X.cI, 600, .inl (F 4))), (a 5, .inl (X.cI, 600, .inl (F 5))), (a 6, .inl (X.cI, 600, .inl (F 6))), (a 7, .inl (X.cI, 1024, .inl (F 7))), (a 8, .inl (X.cZ, 600, .inl f1))])) : ∀ (k : Nat) (r : Nat) (f8 : Nat → Int32), r ≤ i + 1 → i + 1 < r + k → (∀ q, q < r → f8 q = zb (decide (q = i))) → zW X 3 [(h, .inr (3, [.ref (a 0), .ref (a 1), .ref (a 2), .ref (a 3), .ref (a 4), .ref (a 5), .ref (a 6), .ref (a 7), .ref (a 8), .int (nI n), .int (zb ov), .int am])), (a 0, .inl (X.cI, 600, .inl (F 0))), (a 1, .inl (X.cI, 600, .inl (F 1))), (a 2, .inl (X.cI, 600, .inl (F 2))), (a 3, .inl (X.cI, 600, .inl (F 3))), (a 4, .inl (X.cI, 600, .inl (F 4))), (a 5, .inl (X.cI, 600, .inl (F 5))), (a 6, .inl (X.cI, 600, .inl (F 6))), (a 7, .inl (X.cI, 1024, .inl (F 7))), (a 8, .inl (X.cZ, 600, .inl f8))] 0 0 2 [(0, .ref h), (1, .int (nI i)), (2, .int (nI r))] [] := by
  have hiX3 : ∀ w ∈ u_ws RX3 TX3 12, w ∈ wsX3_markRest := by decide +kernel
  have hf36 : Cond.fieldLink RX3 36 "RdfsRules$Rows" "rests" "[Z" ∈ wsX3_markRest := by decide +kernel
  intro k
  induction k with
  | zero =>
    intro r f8 hr hk hM
    exfalso
    omega
  | succ k ih =>
    intro r f8 hr hk hM
    have hn6 := hR.le
    refine z_iload_n (q := 3) C 2 rfl rfl dX3_markRest_2 rfl ?_
    refine z_iload_n (q := 4) C 1 rfl rfl dX3_markRest_3 rfl ?_
    refine z_icmp_gt_n (q := 7) (tgt := 29) C (by omega) (by omega) dX3_markRest_4 (by decide) rfl (fun c4 => ?_) (fun c4 => ?_)
    · skip
      refine z_iload_n (q := 30) C 1 rfl rfl dX3_markRest_29 rfl ?_
      refine z_istore_n (q := 31) (lv' := [(2, .int (nI i)), (0, .ref h), (1, .int (nI i))]) C rfl dX3_markRest_30 rfl (by decide) rfl ?_
      refine z_lv [1, 2, 0] rfl ?_
      have key := l_X3_markRest2 h a F n ov am S hR i hi hK C E (i + 2) (i + 1) f8 (fun q => decide (q = i)) (by omega) (fun q hq => hM q (by omega)) rfl
      rw [pk_m1 i] at key
      exact key
    · skip
      refine z_aload_n (q := 8) C 0 rfl rfl dX3_markRest_7 rfl ?_
      refine z_get (q := 11) (v := .ref (a 8)) C hiX3 0 8 rfl rfl (by decide) hf36 rfl dX3_markRest_8 rfl ?_
      refine z_iload_n (q := 12) C 2 rfl rfl dX3_markRest_11 rfl ?_
      refine z_iload_n (q := 13) C 2 rfl rfl dX3_markRest_12 rfl ?_
      refine z_iload_n (q := 14) C 1 rfl rfl dX3_markRest_13 rfl ?_
      refine z_icmp_ne_n (q := 17) (tgt := 21) C (by omega) (by omega) dX3_markRest_14 (by decide) rfl (fun c14 => ?_) (fun c14 => ?_)
      · skip
        refine z_iconst (q := 22) C k_iconst_0 dX3_markRest_21 rfl ?_
        refine z_zast (q := 23) (ws' := [(h, .inr (3, [.ref (a 0), .ref (a 1), .ref (a 2), .ref (a 3), .ref (a 4), .ref (a 5), .ref (a 6), .ref (a 7), .ref (a 8), .int (nI n), .int (zb ov), .int am])), (a 0, .inl (X.cI, 600, .inl (F 0))), (a 1, .inl (X.cI, 600, .inl (F 1))), (a 2, .inl (X.cI, 600, .inl (F 2))), (a 3, .inl (X.cI, 600, .inl (F 3))), (a 4, .inl (X.cI, 600, .inl (F 4))), (a 5, .inl (X.cI, 600, .inl (F 5))), (a 6, .inl (X.cI, 600, .inl (F 6))), (a 7, .inl (X.cI, 1024, .inl (F 7))), (a 8, .inl (X.cZ, 600, .inl (upd f8 r (nI 0))))]) C 9 rfl (i := r) (by decide) (by omega) (by decide) dX3_markRest_22 rfl rfl ?_
        refine z_iinc (q := 26) (v := nI (r + 1)) (lv' := [(2, .int (nI (r + 1))), (0, .ref h), (1, .int (nI i))]) C 2 dX3_markRest_23 rfl rfl (k_inc1 r) (by decide) rfl ?_
        refine z_goto (tgt := 2) C dX3_markRest_26 (by decide) ?_
        refine z_lv [1, 2, 0] rfl ?_
        exact ih (r + 1) _ (by omega) (by omega) (fun q hq => by show (if q = r then nI 0 else f8 q) = _; split; subst_vars; exact zb_is0 (decide_eq_false (by omega)); exact hM q (by omega))
      · skip
        refine z_iconst (q := 18) C k_iconst_1 dX3_markRest_17 rfl ?_
        refine z_goto (tgt := 22) C dX3_markRest_18 (by decide) ?_
        refine z_zast (q := 23) (ws' := [(h, .inr (3, [.ref (a 0), .ref (a 1), .ref (a 2), .ref (a 3), .ref (a 4), .ref (a 5), .ref (a 6), .ref (a 7), .ref (a 8), .int (nI n), .int (zb ov), .int am])), (a 0, .inl (X.cI, 600, .inl (F 0))), (a 1, .inl (X.cI, 600, .inl (F 1))), (a 2, .inl (X.cI, 600, .inl (F 2))), (a 3, .inl (X.cI, 600, .inl (F 3))), (a 4, .inl (X.cI, 600, .inl (F 4))), (a 5, .inl (X.cI, 600, .inl (F 5))), (a 6, .inl (X.cI, 600, .inl (F 6))), (a 7, .inl (X.cI, 1024, .inl (F 7))), (a 8, .inl (X.cZ, 600, .inl (upd f8 r (nI 1))))]) C 9 rfl (i := r) (by decide) (by omega) (by decide) dX3_markRest_22 rfl rfl ?_
        refine z_iinc (q := 26) (v := nI (r + 1)) (lv' := [(2, .int (nI (r + 1))), (0, .ref h), (1, .int (nI i))]) C 2 dX3_markRest_23 rfl rfl (k_inc1 r) (by decide) rfl ?_
        refine z_goto (tgt := 2) C dX3_markRest_26 (by decide) ?_
        refine z_lv [1, 2, 0] rfl ?_
        exact ih (r + 1) _ (by omega) (by omega) (fun q hq => by show (if q = r then nI 1 else f8 q) = _; split; subst_vars; exact zb_is1 (decide_eq_true (by omega)); exact hM q (by omega))

set_option maxHeartbeats 4000000 in
set_option maxRecDepth 100000 in
theorem c_X3_markRest (l : Launch) (D : va_G) (g : ClassId × ClassId × ClassId) (h : Nat) (a : Nat → Nat) (F : Nat → Nat → Int32) (n : Nat) (ov : Bool) (am : Int32) (S : RSt) (hR : rowsRep F n ov S) (i : Nat) (hi : i < n) (hK : refOK S.1) : zM l yX3_markRest wsX3_markRest ({ frames := 1, cells := 0, slots := 0, locals := 21 } : Room) D g [.ref h, .int (nI i)] [(h, .inr (3, [.ref (a 0), .ref (a 1), .ref (a 2), .ref (a 3), .ref (a 4), .ref (a 5), .ref (a 6), .ref (a 7), .ref (a 8), .int (nI n), .int (zb ov), .int am])), (a 0, .inl (g.1, 600, .inl (F 0))), (a 1, .inl (g.1, 600, .inl (F 1))), (a 2, .inl (g.1, 600, .inl (F 2))), (a 3, .inl (g.1, 600, .inl (F 3))), (a 4, .inl (g.1, 600, .inl (F 4))), (a 5, .inl (g.1, 600, .inl (F 5))), (a 6, .inl (g.1, 600, .inl (F 6))), (a 7, .inl (g.1, 1024, .inl (F 7))), (a 8, .inl (g.2.1, 600, .inl (F 8)))] 0 0 (fun v w1 => ∃ f1 : Nat → Int32, (∀ q, q ≤ i → f1 q = zb (marksL S.1 i q)) ∧ v = none ∧ w1 = [(h, .inr (3, [.ref (a 0), .ref (a 1), .ref (a 2), .ref (a 3), .ref (a 4), .ref (a 5), .ref (a 6), .ref (a 7), .ref (a 8), .int (nI n), .int (zb ov), .int am])), (a 0, .inl (g.1, 600, .inl (F 0))), (a 1, .inl (g.1, 600, .inl (F 1))), (a 2, .inl (g.1, 600, .inl (F 2))), (a 3, .inl (g.1, 600, .inl (F 3))), (a 4, .inl (g.1, 600, .inl (F 4))), (a 5, .inl (g.1, 600, .inl (F 5))), (a 6, .inl (g.1, 600, .inl (F 6))), (a 7, .inl (g.1, 1024, .inl (F 7))), (a 8, .inl (g.2.1, 600, .inl f1))]) := by
  refine z_met (cc := cX3_markRest) (maxL := 3) (ret := none) (lv := [(0, .ref h), (1, .int (nI i))]) (by decide) rfl (Nat.le_of_ble_eq_true rfl) rfl ?_
  intro X hXD hXg hXl hnm C E
  subst hXD hXg hXl
  have C : zC X cX3_markRest 3 RX3 wsX3_markRest ({ frames := 1, cells := 0, slots := 0, locals := 21 } : Room) := C
  have hn6 := hR.le
  refine z_iconst (q := 1) C k_iconst_0 dX3_markRest_0 rfl ?_
  refine z_istore_n (q := 2) (lv' := [(2, .int (nI 0)), (0, .ref h), (1, .int (nI i))]) C rfl dX3_markRest_1 rfl (by decide) rfl ?_
  refine z_lv [1, 2, 0] rfl ?_
  exact l_X3_markRest h a F n ov am S hR i hi hK C E (i + 2) 0 (F 8) (by omega) (by omega) (fun q hq => absurd hq (Nat.not_lt_zero q))

def cntM (M : Nat → Bool) : Nat → Nat
  | 0 => 0
  | k + 1 => cntM M k + (if M k then 1 else 0)
theorem cntM_le (M : Nat → Bool) : ∀ k, cntM M k ≤ k
  | 0 => Nat.le_refl 0
  | k + 1 => by
    have := cntM_le M k
    show cntM M k + _ ≤ _
    split <;> omega
theorem cntM_t {M : Nat → Bool} {k : Nat} (h : M k = true) : cntM M (k + 1) = cntM M k + 1 := by show cntM M k + _ = _; rw [if_pos h]
theorem cntM_f {M : Nat → Bool} {k : Nat} (h : M k = false) : cntM M (k + 1) = cntM M k := by
  show cntM M k + _ = _
  rw [h]
  rfl
/-- the k-th marked row among m rows from row on, b of them before -/
def nthUp (M : Nat → Bool) (x : Int32) : Nat → Nat → Nat → Int32
  | 0, _, _ => (-1)
  | m + 1, row, b => if M row = true then (if nI b = x then nI row else nthUp M x m (row + 1) (b + 1)) else nthUp M x m (row + 1) b

set_option maxHeartbeats 4000000 in
set_option maxRecDepth 100000 in
theorem l_X3_restSize {X : zX} (h : Nat) (a : Nat → Nat) (F : Nat → Nat → Int32) (n : Nat) (ov : Bool) (am : Int32) (S : RSt) (hR : rowsRep F n ov S) (i : Nat) (hi : i < n) (hK : refOK S.1) (f1 : Nat → Int32) (hf1 : ∀ q, q ≤ i → f1 q = zb (marksL S.1 i q)) (C : zC X cX3_restSize 4 RX3 wsX3_restSize ({ frames := 2, cells := 0, slots := 0, locals := 43 } : Room)) (E : zE X (some .int) 0 0 (fun v w1 => ∃ F1 : Nat → Nat → Int32, rowsRep F1 n ov S ∧ v = some (.int (nI (cntM (marksL S.1 i) (i + 1)))) ∧ w1 = [(h, .inr (3, [.ref (a 0), .ref (a 1), .ref (a 2), .ref (a 3), .ref (a 4), .ref (a 5), .ref (a 6), .ref (a 7), .ref (a 8), .int (nI n), .int (zb ov), .int am])), (a 0, .inl (X.cI, 600, .inl (F1 0))), (a 1, .inl (X.cI, 600, .inl (F1 1))), (a 2, .inl (X.cI, 600, .inl (F1 2))), (a 3, .inl (X.cI, 600, .inl (F1 3))), (a 4, .inl (X.cI, 600, .inl (F1 4))), (a 5, .inl (X.cI, 600, .inl (F1 5))), (a 6, .inl (X.cI, 600, .inl (F1 6))), (a 7, .inl (X.cI, 1024, .inl (F1 7))), (a 8, .inl (X.cZ, 600, .inl (F1 8)))])) : ∀ (k : Nat) (r : Nat), r ≤ i + 1 → i + 1 < r + k → zW X 4 [(h, .inr (3, [.ref (a 0), .ref (a 1), .ref (a 2), .ref (a 3), .ref (a 4), .ref (a 5), .ref (a 6), .ref (a 7), .ref (a 8), .int (nI n), .int (zb ov), .int am])), (a 0, .inl (X.cI, 600, .inl (F 0))), (a 1, .inl (X.cI, 600, .inl (F 1))), (a 2, .inl (X.cI, 600, .inl (F 2))), (a 3, .inl (X.cI, 600, .inl (F 3))), (a 4, .inl (X.cI, 600, .inl (F 4))), (a 5, .inl (X.cI, 600, .inl (F 5))), (a 6, .inl (X.cI, 600, .inl (F 6))), (a 7, .inl (X.cI, 1024, .inl (F 7))), (a 8, .inl (X.cZ, 600, .inl f1))] 0 0 9 [(0, .ref h), (1, .int (nI i)), (2, .int (nI (cntM (marksL S.1 i) r))), (3, .int (nI r))] [] := by
  have hiX3 : ∀ w ∈ u_ws RX3 TX3 12, w ∈ wsX3_restSize := by decide +kernel
  have hf36 : Cond.fieldLink RX3 36 "RdfsRules$Rows" "rests" "[Z" ∈ wsX3_restSize := by decide +kernel
  intro k
  induction k with
  | zero =>
    intro r hr hk
    exfalso
    omega
  | succ k ih =>
    intro r hr hk
    have hn6 := hR.le
    have hcl := cntM_le (marksL S.1 i) r
    refine z_iload_n (q := 10) C 3 rfl rfl dX3_restSize_9 rfl ?_
    refine z_iload_n (q := 11) C 1 rfl rfl dX3_restSize_10 rfl ?_
    refine z_icmp_gt_n (q := 14) (tgt := 32) C (by omega) (by omega) dX3_restSize_11 (by decide) rfl (fun c11 => ?_) (fun c11 => ?_)
    · skip
      refine z_iload_n (q := 33) C 2 rfl rfl dX3_restSize_32 rfl ?_
      refine z_iret C E (by omega) (by omega) dX3_restSize_33 ?_
      have hri : r = i + 1 := by omega
      subst hri
      exact ⟨setF8 F f1, hR.set8 f1, rfl, rfl⟩
    · skip
      refine z_aload_n (q := 15) C 0 rfl rfl dX3_restSize_14 rfl ?_
      refine z_get (q := 18) (v := .ref (a 8)) C hiX3 0 8 rfl rfl (by decide) hf36 rfl dX3_restSize_15 rfl ?_
      refine z_iload_n (q := 19) C 3 rfl rfl dX3_restSize_18 rfl ?_
      refine z_zald (q := 20) C 9 rfl (i := r) (by omega) (by decide) dX3_restSize_19 rfl ?_
      refine z_if_eq_z (q := 23) (tgt := 26) C dX3_restSize_20 (by decide) rfl (fun c20 => ?_) (fun c20 => ?_)
      · skip
        refine z_iinc (q := 29) (v := nI (r + 1)) (lv' := [(3, .int (nI (r + 1))), (0, .ref h), (1, .int (nI i)), (2, .int (nI (cntM (marksL S.1 i) r)))]) C 3 dX3_restSize_26 rfl rfl (k_inc1 r) (by decide) rfl ?_
        refine z_goto (tgt := 9) C dX3_restSize_29 (by decide) ?_
        refine z_lv [1, 2, 3, 0] rfl ?_
        rw [← cntM_f (zb_0.mp (by rw [← hf1 r (by omega)]; exact c20))]
        exact ih (r + 1) (by omega) (by omega)
      · skip
        refine z_iinc (q := 26) (v := nI (cntM (marksL S.1 i) r + 1)) (lv' := [(2, .int (nI (cntM (marksL S.1 i) r + 1))), (0, .ref h), (1, .int (nI i)), (3, .int (nI r))]) C 2 dX3_restSize_23 rfl rfl (k_inc1 (cntM (marksL S.1 i) r)) (by decide) rfl ?_
        refine z_iinc (q := 29) (v := nI (r + 1)) (lv' := [(3, .int (nI (r + 1))), (2, .int (nI (cntM (marksL S.1 i) r + 1))), (0, .ref h), (1, .int (nI i))]) C 3 dX3_restSize_26 rfl rfl (k_inc1 r) (by decide) rfl ?_
        refine z_goto (tgt := 9) C dX3_restSize_29 (by decide) ?_
        refine z_lv [2, 3, 1, 0] rfl ?_
        rw [← cntM_t (zb_n0.mp (by rw [← hf1 r (by omega)]; exact c20))]
        exact ih (r + 1) (by omega) (by omega)

set_option maxHeartbeats 4000000 in
set_option maxRecDepth 100000 in
theorem c_X3_restSize (l : Launch) (D : va_G) (g : ClassId × ClassId × ClassId) (h : Nat) (a : Nat → Nat) (F : Nat → Nat → Int32) (n : Nat) (ov : Bool) (am : Int32) (S : RSt) (hR : rowsRep F n ov S) (i : Nat) (hi : i < n) (hK : refOK S.1) : zM l yX3_restSize wsX3_restSize ({ frames := 2, cells := 0, slots := 0, locals := 43 } : Room) D g [.ref h, .int (nI i)] [(h, .inr (3, [.ref (a 0), .ref (a 1), .ref (a 2), .ref (a 3), .ref (a 4), .ref (a 5), .ref (a 6), .ref (a 7), .ref (a 8), .int (nI n), .int (zb ov), .int am])), (a 0, .inl (g.1, 600, .inl (F 0))), (a 1, .inl (g.1, 600, .inl (F 1))), (a 2, .inl (g.1, 600, .inl (F 2))), (a 3, .inl (g.1, 600, .inl (F 3))), (a 4, .inl (g.1, 600, .inl (F 4))), (a 5, .inl (g.1, 600, .inl (F 5))), (a 6, .inl (g.1, 600, .inl (F 6))), (a 7, .inl (g.1, 1024, .inl (F 7))), (a 8, .inl (g.2.1, 600, .inl (F 8)))] 0 0 (fun v w1 => ∃ F1 : Nat → Nat → Int32, rowsRep F1 n ov S ∧ v = some (.int (nI (cntM (marksL S.1 i) (i + 1)))) ∧ w1 = [(h, .inr (3, [.ref (a 0), .ref (a 1), .ref (a 2), .ref (a 3), .ref (a 4), .ref (a 5), .ref (a 6), .ref (a 7), .ref (a 8), .int (nI n), .int (zb ov), .int am])), (a 0, .inl (g.1, 600, .inl (F1 0))), (a 1, .inl (g.1, 600, .inl (F1 1))), (a 2, .inl (g.1, 600, .inl (F1 2))), (a 3, .inl (g.1, 600, .inl (F1 3))), (a 4, .inl (g.1, 600, .inl (F1 4))), (a 5, .inl (g.1, 600, .inl (F1 5))), (a 6, .inl (g.1, 600, .inl (F1 6))), (a 7, .inl (g.1, 1024, .inl (F1 7))), (a 8, .inl (g.2.1, 600, .inl (F1 8)))]) := by
  refine z_met (cc := cX3_restSize) (maxL := 4) (ret := (some .int)) (lv := [(0, .ref h), (1, .int (nI i))]) (by decide) rfl (Nat.le_of_ble_eq_true rfl) rfl ?_
  intro X hXD hXg hXl hnm C E
  subst hXD hXg hXl
  have C : zC X cX3_restSize 4 RX3 wsX3_restSize ({ frames := 2, cells := 0, slots := 0, locals := 43 } : Room) := C
  have hn6 := hR.le
  refine z_aload_n (q := 1) C 0 rfl rfl dX3_restSize_0 rfl ?_
  refine z_iload_n (q := 2) C 1 rfl rfl dX3_restSize_1 rfl ?_
  refine z_callV (q := 5) (n := 1) (As := [.int (nI i)]) (rest := []) (wr := []) C (c_X3_markRest X.l X.D X.2.1 h a F n ov am S hR i hi hK) gX3_restSize_X3_markRest rfl rfl rfl (by decide +kernel) (by decide) ⟨by first | decide | omega, by first | decide | omega⟩ 0 3 rfl rfl [0, 1, 2, 3, 4, 5, 6, 7, 8, 9] [] rfl rfl (by decide) (by decide) (by decide) rfl rfl (Nat.le_of_ble_eq_true rfl) dX3_restSize_2 rfl (fun v w1 hp => ?_)
  obtain ⟨f1, hf1, rfl, rfl⟩ := hp
  show zW X 4 [(h, .inr (3, [.ref (a 0), .ref (a 1), .ref (a 2), .ref (a 3), .ref (a 4), .ref (a 5), .ref (a 6), .ref (a 7), .ref (a 8), .int (nI n), .int (zb ov), .int am])), (a 0, .inl (X.cI, 600, .inl (F 0))), (a 1, .inl (X.cI, 600, .inl (F 1))), (a 2, .inl (X.cI, 600, .inl (F 2))), (a 3, .inl (X.cI, 600, .inl (F 3))), (a 4, .inl (X.cI, 600, .inl (F 4))), (a 5, .inl (X.cI, 600, .inl (F 5))), (a 6, .inl (X.cI, 600, .inl (F 6))), (a 7, .inl (X.cI, 1024, .inl (F 7))), (a 8, .inl (X.cZ, 600, .inl f1))] _ _ 5 _ []
  refine z_iconst (q := 6) C k_iconst_0 dX3_restSize_5 rfl ?_
  refine z_istore_n (q := 7) (lv' := [(2, .int (nI 0)), (0, .ref h), (1, .int (nI i))]) C rfl dX3_restSize_6 rfl (by decide) rfl ?_
  refine z_iconst (q := 8) C k_iconst_0 dX3_restSize_7 rfl ?_
  refine z_istore_n (q := 9) (lv' := [(3, .int (nI 0)), (2, .int (nI 0)), (0, .ref h), (1, .int (nI i))]) C rfl dX3_restSize_8 rfl (by decide) rfl ?_
  refine z_lv [2, 3, 1, 0] rfl ?_
  exact l_X3_restSize h a F n ov am S hR i hi hK f1 hf1 C E (i + 2) 0 (by omega) (by omega)

set_option maxHeartbeats 4000000 in
set_option maxRecDepth 100000 in
theorem l_X3_restMember {X : zX} (h : Nat) (a : Nat → Nat) (F : Nat → Nat → Int32) (n : Nat) (ov : Bool) (am : Int32) (S : RSt) (hR : rowsRep F n ov S) (i : Nat) (hi : i < n) (hK : refOK S.1) (x : Int32) (f1 : Nat → Int32) (hf1 : ∀ q, q ≤ i → f1 q = zb (marksL S.1 i q)) (C : zC X cX3_restMember 5 RX3 wsX3_restMember ({ frames := 2, cells := 0, slots := 0, locals := 43 } : Room)) (E : zE X (some .int) 0 0 (fun v w1 => ∃ F1 : Nat → Nat → Int32, rowsRep F1 n ov S ∧ v = some (.int (nthUp (marksL S.1 i) x (i + 1) 0 0)) ∧ w1 = [(h, .inr (3, [.ref (a 0), .ref (a 1), .ref (a 2), .ref (a 3), .ref (a 4), .ref (a 5), .ref (a 6), .ref (a 7), .ref (a 8), .int (nI n), .int (zb ov), .int am])), (a 0, .inl (X.cI, 600, .inl (F1 0))), (a 1, .inl (X.cI, 600, .inl (F1 1))), (a 2, .inl (X.cI, 600, .inl (F1 2))), (a 3, .inl (X.cI, 600, .inl (F1 3))), (a 4, .inl (X.cI, 600, .inl (F1 4))), (a 5, .inl (X.cI, 600, .inl (F1 5))), (a 6, .inl (X.cI, 600, .inl (F1 6))), (a 7, .inl (X.cI, 1024, .inl (F1 7))), (a 8, .inl (X.cZ, 600, .inl (F1 8)))])) : ∀ (k : Nat) (r b m : Nat), r + m = i + 1 → i + 1 < r + k → b ≤ r → m ≤ i + 1 → nthUp (marksL S.1 i) x m r b = nthUp (marksL S.1 i) x (i + 1) 0 0 → zW X 5 [(h, .inr (3, [.ref (a 0), .ref (a 1), .ref (a 2), .ref (a 3), .ref (a 4), .ref (a 5), .ref (a 6), .ref (a 7), .ref (a 8), .int (nI n), .int (zb ov), .int am])), (a 0, .inl (X.cI, 600, .inl (F 0))), (a 1, .inl (X.cI, 600, .inl (F 1))), (a 2, .inl (X.cI, 600, .inl (F 2))), (a 3, .inl (X.cI, 600, .inl (F 3))), (a 4, .inl (X.cI, 600, .inl (F 4))), (a 5, .inl (X.cI, 600, .inl (F 5))), (a 6, .inl (X.cI, 600, .inl (F 6))), (a 7, .inl (X.cI, 1024, .inl (F 7))), (a 8, .inl (X.cZ, 600, .inl f1))] 0 0 10 [(0, .ref h), (1, .int (nI i)), (2, .int x), (3, .int (nI b)), (4, .int (nI r))] [] := by
  have hiX3 : ∀ w ∈ u_ws RX3 TX3 12, w ∈ wsX3_restMember := by decide +kernel
  have hf36 : Cond.fieldLink RX3 36 "RdfsRules$Rows" "rests" "[Z" ∈ wsX3_restMember := by decide +kernel
  intro k
  induction k with
  | zero =>
    intro r b m hr hk hb hmi hm
    exfalso
    omega
  | succ k ih =>
    intro r b m hr hk hb hmi hm
    have hn6 := hR.le
    refine z_iload (q := 12) C 4 rfl dX3_restMember_10 rfl ?_
    refine z_iload_n (q := 13) C 1 rfl rfl dX3_restMember_12 rfl ?_
    refine z_icmp_gt_n (q := 16) (tgt := 43) C (by omega) (by omega) dX3_restMember_13 (by decide) rfl (fun c13 => ?_) (fun c13 => ?_)
    · skip
      refine z_iconst (q := 44) C k_iconst_m1 dX3_restMember_43 rfl ?_
      refine z_iret C E (by omega) (by omega) dX3_restMember_44 ?_
      obtain rfl : m = 0 := by omega
      exact ⟨setF8 F f1, hR.set8 f1, by rw [← hm]; rfl, rfl⟩
    · skip
      refine z_aload_n (q := 17) C 0 rfl rfl dX3_restMember_16 rfl ?_
      refine z_get (q := 20) (v := .ref (a 8)) C hiX3 0 8 rfl rfl (by decide) hf36 rfl dX3_restMember_17 rfl ?_
      refine z_iload (q := 22) C 4 rfl dX3_restMember_20 rfl ?_
      refine z_zald (q := 23) C 9 rfl (i := r) (by omega) (by decide) dX3_restMember_22 rfl ?_
      refine z_if_eq_z (q := 26) (tgt := 37) C dX3_restMember_23 (by decide) rfl (fun c23 => ?_) (fun c23 => ?_)
      · skip
        refine z_iinc (q := 40) (v := nI (r + 1)) (lv' := [(4, .int (nI (r + 1))), (0, .ref h), (1, .int (nI i)), (2, .int x), (3, .int (nI b))]) C 4 dX3_restMember_37 rfl rfl (k_inc1 r) (by decide) rfl ?_
        refine z_goto (tgt := 10) C dX3_restMember_40 (by decide) ?_
        refine z_lv [1, 2, 3, 4, 0] rfl ?_
        obtain ⟨t, rfl⟩ : ∃ t, m = t + 1 := ⟨m - 1, by omega⟩
        have hmk : marksL S.1 i r = false := zb_0.mp (by rw [← hf1 r (by omega)]; exact c23)
        exact ih (r + 1) b t (by omega) (by omega) (by omega) (by omega) (by rw [← hm]; show _ = (if marksL S.1 i r = true then _ else _); rw [if_neg (by rw [hmk]; decide)])
      · skip
        refine z_iload_n (q := 27) C 3 rfl rfl dX3_restMember_26 rfl ?_
        refine z_iload_n (q := 28) C 2 rfl rfl dX3_restMember_27 rfl ?_
        refine z_icmp_ne (q := 31) (tgt := 34) C dX3_restMember_28 (by decide) rfl (fun c28 => ?_) (fun c28 => ?_)
        · skip
          refine z_iinc (q := 37) (v := nI (b + 1)) (lv' := [(3, .int (nI (b + 1))), (0, .ref h), (1, .int (nI i)), (2, .int x), (4, .int (nI r))]) C 3 dX3_restMember_34 rfl rfl (k_inc1 b) (by decide) rfl ?_
          refine z_iinc (q := 40) (v := nI (r + 1)) (lv' := [(4, .int (nI (r + 1))), (3, .int (nI (b + 1))), (0, .ref h), (1, .int (nI i)), (2, .int x)]) C 4 dX3_restMember_37 rfl rfl (k_inc1 r) (by decide) rfl ?_
          refine z_goto (tgt := 10) C dX3_restMember_40 (by decide) ?_
          refine z_lv [2, 3, 4, 1, 0] rfl ?_
          obtain ⟨t, rfl⟩ : ∃ t, m = t + 1 := ⟨m - 1, by omega⟩
          exact ih (r + 1) (b + 1) t (by omega) (by omega) (by omega) (by omega) (by rw [← hm]; show _ = (if marksL S.1 i r = true then _ else _); rw [if_pos (zb_n0.mp (by rw [← hf1 r (by omega)]; exact c23)), if_neg c28])
        · skip
          refine z_iload (q := 33) C 4 rfl dX3_restMember_31 rfl ?_
          refine z_iret C E (by omega) (by omega) dX3_restMember_33 ?_
          obtain ⟨t, rfl⟩ : ∃ t, m = t + 1 := ⟨m - 1, by omega⟩
          refine ⟨setF8 F f1, hR.set8 f1, ?_, rfl⟩
          rw [← hm]
          show _ = some (Value.int (if marksL S.1 i r = true then _ else _))
          rw [if_pos (zb_n0.mp (by rw [← hf1 r (by omega)]; exact c23)), if_pos c28]

set_option maxHeartbeats 4000000 in
set_option maxRecDepth 100000 in
theorem c_X3_restMember (l : Launch) (D : va_G) (g : ClassId × ClassId × ClassId) (h : Nat) (a : Nat → Nat) (F : Nat → Nat → Int32) (n : Nat) (ov : Bool) (am : Int32) (S : RSt) (hR : rowsRep F n ov S) (i : Nat) (hi : i < n) (hK : refOK S.1) (x : Int32) : zM l yX3_restMember wsX3_restMember ({ frames := 2, cells := 0, slots := 0, locals := 43 } : Room) D g [.ref h, .int (nI i), .int x] [(h, .inr (3, [.ref (a 0), .ref (a 1), .ref (a 2), .ref (a 3), .ref (a 4), .ref (a 5), .ref (a 6), .ref (a 7), .ref (a 8), .int (nI n), .int (zb ov), .int am])), (a 0, .inl (g.1, 600, .inl (F 0))), (a 1, .inl (g.1, 600, .inl (F 1))), (a 2, .inl (g.1, 600, .inl (F 2))), (a 3, .inl (g.1, 600, .inl (F 3))), (a 4, .inl (g.1, 600, .inl (F 4))), (a 5, .inl (g.1, 600, .inl (F 5))), (a 6, .inl (g.1, 600, .inl (F 6))), (a 7, .inl (g.1, 1024, .inl (F 7))), (a 8, .inl (g.2.1, 600, .inl (F 8)))] 0 0 (fun v w1 => ∃ F1 : Nat → Nat → Int32, rowsRep F1 n ov S ∧ v = some (.int (nthUp (marksL S.1 i) x (i + 1) 0 0)) ∧ w1 = [(h, .inr (3, [.ref (a 0), .ref (a 1), .ref (a 2), .ref (a 3), .ref (a 4), .ref (a 5), .ref (a 6), .ref (a 7), .ref (a 8), .int (nI n), .int (zb ov), .int am])), (a 0, .inl (g.1, 600, .inl (F1 0))), (a 1, .inl (g.1, 600, .inl (F1 1))), (a 2, .inl (g.1, 600, .inl (F1 2))), (a 3, .inl (g.1, 600, .inl (F1 3))), (a 4, .inl (g.1, 600, .inl (F1 4))), (a 5, .inl (g.1, 600, .inl (F1 5))), (a 6, .inl (g.1, 600, .inl (F1 6))), (a 7, .inl (g.1, 1024, .inl (F1 7))), (a 8, .inl (g.2.1, 600, .inl (F1 8)))]) := by
  refine z_met (cc := cX3_restMember) (maxL := 5) (ret := (some .int)) (lv := [(0, .ref h), (1, .int (nI i)), (2, .int x)]) (by decide) rfl (Nat.le_of_ble_eq_true rfl) rfl ?_
  intro X hXD hXg hXl hnm C E
  subst hXD hXg hXl
  have C : zC X cX3_restMember 5 RX3 wsX3_restMember ({ frames := 2, cells := 0, slots := 0, locals := 43 } : Room) := C
  have hn6 := hR.le
  refine z_aload_n (q := 1) C 0 rfl rfl dX3_restMember_0 rfl ?_
  refine z_iload_n (q := 2) C 1 rfl rfl dX3_restMember_1 rfl ?_
  refine z_callV (q := 5) (n := 1) (As := [.int (nI i)]) (rest := []) (wr := []) C (c_X3_markRest X.l X.D X.2.1 h a F n ov am S hR i hi hK) gX3_restMember_X3_markRest rfl rfl rfl (by decide +kernel) (by decide) ⟨by first | decide | omega, by first | decide | omega⟩ 0 3 rfl rfl [0, 1, 2, 3, 4, 5, 6, 7, 8, 9] [] rfl rfl (by decide) (by decide) (by decide) rfl rfl (Nat.le_of_ble_eq_true rfl) dX3_restMember_2 rfl (fun v w1 hp => ?_)
  obtain ⟨f1, hf1, rfl, rfl⟩ := hp
  show zW X 5 [(h, .inr (3, [.ref (a 0), .ref (a 1), .ref (a 2), .ref (a 3), .ref (a 4), .ref (a 5), .ref (a 6), .ref (a 7), .ref (a 8), .int (nI n), .int (zb ov), .int am])), (a 0, .inl (X.cI, 600, .inl (F 0))), (a 1, .inl (X.cI, 600, .inl (F 1))), (a 2, .inl (X.cI, 600, .inl (F 2))), (a 3, .inl (X.cI, 600, .inl (F 3))), (a 4, .inl (X.cI, 600, .inl (F 4))), (a 5, .inl (X.cI, 600, .inl (F 5))), (a 6, .inl (X.cI, 600, .inl (F 6))), (a 7, .inl (X.cI, 1024, .inl (F 7))), (a 8, .inl (X.cZ, 600, .inl f1))] _ _ 5 _ []
  refine z_iconst (q := 6) C k_iconst_0 dX3_restMember_5 rfl ?_
  refine z_istore_n (q := 7) (lv' := [(3, .int (nI 0)), (0, .ref h), (1, .int (nI i)), (2, .int x)]) C rfl dX3_restMember_6 rfl (by decide) rfl ?_
  refine z_iconst (q := 8) C k_iconst_0 dX3_restMember_7 rfl ?_
  refine z_istore (q := 10) (lv' := [(4, .int (nI 0)), (3, .int (nI 0)), (0, .ref h), (1, .int (nI i)), (2, .int x)]) C dX3_restMember_8 rfl (by decide) rfl ?_
  refine z_lv [2, 3, 4, 1, 0] rfl ?_
  exact l_X3_restMember h a F n ov am S hR i hi hK x f1 hf1 C E (i + 2) 0 0 (i + 1) (by omega) (by omega) (by omega) (by omega) rfl
end
section
/-! GivenFacts -/
def givRep (G : Nat → Nat → Int32) (k : Nat) (GL : List Row) : Prop := GL.length = k ∧ k ≤ 80 ∧ ∀ i j, i < k → j < 3 → G j i = GL.getD i r0 j
theorem givRep.le {G : Nat → Nat → Int32} {k : Nat} {GL : List Row} (h : givRep G k GL) : k ≤ 80 := h.2.1
theorem givRep.at {G : Nat → Nat → Int32} {k : Nat} {GL : List Row} (h : givRep G k GL) {i j : Nat} (hi : i < k) (hj : j < 3) : G j i = GL.getD i r0 j := h.2.2 i j hi hj

set_option maxHeartbeats 4000000 in
set_option maxRecDepth 100000 in
theorem c_X1_size (l : Launch) (D : va_G) (g : ClassId × ClassId × ClassId) (h : Nat) (b : Nat → Nat) (k : Nat) : zM l yX1_size wsX1_size ({ frames := 0, cells := 0, slots := 0, locals := 0 } : Room) D g [.ref h] [(h, .inr (1, [.ref (b 0), .ref (b 1), .ref (b 2), .int (nI k)]))] 0 0 (fun v w1 => v = some (.int (nI k)) ∧ w1 = [(h, .inr (1, [.ref (b 0), .ref (b 1), .ref (b 2), .int (nI k)]))]) := by
  refine z_met (cc := cX1_size) (maxL := 1) (ret := (some .int)) (lv := [(0, .ref h)]) (by decide) rfl (Nat.le_of_ble_eq_true rfl) rfl ?_
  intro X hXD hXg hXl hnm C E
  subst hXD hXg hXl
  have C : zC X cX1_size 1 RX1 wsX1_size ({ frames := 0, cells := 0, slots := 0, locals := 0 } : Room) := C
  have hiX1 : ∀ w ∈ u_ws RX1 TX1 4, w ∈ wsX1_size := by decide +kernel
  have hf21 : Cond.fieldLink RX1 21 "RdfsRules$GivenFacts" "size" "I" ∈ wsX1_size := by decide +kernel
  refine z_aload_n (q := 1) C 0 rfl rfl dX1_size_0 rfl ?_
  refine z_get (q := 4) (v := .int (nI k)) C hiX1 0 3 rfl rfl (by decide) hf21 rfl dX1_size_1 rfl ?_
  refine z_iret C E (by omega) (by omega) dX1_size_4 ?_
  exact ⟨rfl, rfl⟩

set_option maxHeartbeats 4000000 in
set_option maxRecDepth 100000 in
theorem l_X1_placeOf {X : zX} (h : Nat) (b : Nat → Nat) (G : Nat → Nat → Int32) (k : Nat) (GL : List Row) (hG : givRep G k GL) (s p o : Int32) (C : zC X cX1_placeOf 5 RX1 wsX1_placeOf ({ frames := 0, cells := 0, slots := 0, locals := 0 } : Room)) (E : zE X (some .int) 0 0 (fun v w1 => v = some (.int (findR GL s p o)) ∧ w1 = [(h, .inr (1, [.ref (b 0), .ref (b 1), .ref (b 2), .int (nI k)])), (b 0, .inl (X.cI, 80, .inl (G 0))), (b 1, .inl (X.cI, 80, .inl (G 1))), (b 2, .inl (X.cI, 80, .inl (G 2)))])) : ∀ (m : Nat) (i : Nat), i ≤ k → k < i + m → (∀ e, e < i → ¬ (GL.getD e r0 0 = s ∧ GL.getD e r0 1 = p ∧ GL.getD e r0 2 = o)) → zW X 5 [(h, .inr (1, [.ref (b 0), .ref (b 1), .ref (b 2), .int (nI k)])), (b 0, .inl (X.cI, 80, .inl (G 0))), (b 1, .inl (X.cI, 80, .inl (G 1))), (b 2, .inl (X.cI, 80, .inl (G 2)))] 0 0 3 [(0, .ref h), (1, .int s), (2, .int p), (3, .int o), (4, .int (nI i))] [] := by
  have hiX1 : ∀ w ∈ u_ws RX1 TX1 4, w ∈ wsX1_placeOf := by decide +kernel
  have hf9 : Cond.fieldLink RX1 9 "RdfsRules$GivenFacts" "subjects" "[I" ∈ wsX1_placeOf := by decide +kernel
  have hf15 : Cond.fieldLink RX1 15 "RdfsRules$GivenFacts" "properties" "[I" ∈ wsX1_placeOf := by decide +kernel
  have hf18 : Cond.fieldLink RX1 18 "RdfsRules$GivenFacts" "objects" "[I" ∈ wsX1_placeOf := by decide +kernel
  have hf21 : Cond.fieldLink RX1 21 "RdfsRules$GivenFacts" "size" "I" ∈ wsX1_placeOf := by decide +kernel
  intro m
  induction m with
  | zero =>
    intro i hi hm hno
    exfalso
    omega
  | succ m ih =>
    intro i hi hm hno
    have hk8 := hG.le
    refine z_iload (q := 5) C 4 rfl dX1_placeOf_3 rfl ?_
    refine z_aload_n (q := 6) C 0 rfl rfl dX1_placeOf_5 rfl ?_
    refine z_get (q := 9) (v := .int (nI k)) C hiX1 0 3 rfl rfl (by decide) hf21 rfl dX1_placeOf_6 rfl ?_
    refine z_icmp_ge_n (q := 12) (tgt := 54) C (by omega) (by omega) dX1_placeOf_9 (by decide) rfl (fun c9 => ?_) (fun c9 => ?_)
    · skip
      refine z_iconst (q := 55) C k_iconst_m1 dX1_placeOf_54 rfl ?_
      refine z_iret C E (by omega) (by omega) dX1_placeOf_55 ?_
      refine ⟨?_, rfl⟩
      rw [findR_none (fun e => by obtain ⟨j, hj, e⟩ := hasF_iff.mp e; rw [hG.1] at hj; exact hno j (by omega) e)]
    · skip
      refine z_aload_n (q := 13) C 0 rfl rfl dX1_placeOf_12 rfl ?_
      refine z_get (q := 16) (v := .ref (b 0)) C hiX1 0 0 rfl rfl (by decide) hf9 rfl dX1_placeOf_13 rfl ?_
      refine z_iload (q := 18) C 4 rfl dX1_placeOf_16 rfl ?_
      refine z_iald (q := 19) C 1 rfl (i := i) (by omega) (by decide) dX1_placeOf_18 rfl ?_
      refine z_iload_n (q := 20) C 1 rfl rfl dX1_placeOf_19 rfl ?_
      refine z_icmp_ne (q := 23) (tgt := 48) C dX1_placeOf_20 (by decide) rfl (fun c20 => ?_) (fun c20 => ?_)
      · skip
        refine z_iinc (q := 51) (v := nI (i + 1)) (lv' := [(4, .int (nI (i + 1))), (0, .ref h), (1, .int s), (2, .int p), (3, .int o)]) C 4 dX1_placeOf_48 rfl rfl (k_inc1 i) (by decide) rfl ?_
        refine z_goto (tgt := 3) C dX1_placeOf_51 (by decide) ?_
        refine z_lv [1, 2, 3, 4, 0] rfl ?_
        exact ih (i + 1) (by omega) (by omega) (fun e he => by rcases Nat.lt_succ_iff_lt_or_eq.mp he with h1 | h1; exact hno e h1; subst h1; rw [← hG.at (i := e) (j := 0) (by omega) (by omega), ← hG.at (i := e) (j := 1) (by omega) (by omega), ← hG.at (i := e) (j := 2) (by omega) (by omega)]; exact fun z => c20 z.1)
      · skip
        refine z_aload_n (q := 24) C 0 rfl rfl dX1_placeOf_23 rfl ?_
        refine z_get (q := 27) (v := .ref (b 1)) C hiX1 0 1 rfl rfl (by decide) hf15 rfl dX1_placeOf_24 rfl ?_
        refine z_iload (q := 29) C 4 rfl dX1_placeOf_27 rfl ?_
        refine z_iald (q := 30) C 2 rfl (i := i) (by omega) (by decide) dX1_placeOf_29 rfl ?_
        refine z_iload_n (q := 31) C 2 rfl rfl dX1_placeOf_30 rfl ?_
        refine z_icmp_ne (q := 34) (tgt := 48) C dX1_placeOf_31 (by decide) rfl (fun c31 => ?_) (fun c31 => ?_)
        · skip
          refine z_iinc (q := 51) (v := nI (i + 1)) (lv' := [(4, .int (nI (i + 1))), (0, .ref h), (1, .int s), (2, .int p), (3, .int o)]) C 4 dX1_placeOf_48 rfl rfl (k_inc1 i) (by decide) rfl ?_
          refine z_goto (tgt := 3) C dX1_placeOf_51 (by decide) ?_
          refine z_lv [1, 2, 3, 4, 0] rfl ?_
          exact ih (i + 1) (by omega) (by omega) (fun e he => by rcases Nat.lt_succ_iff_lt_or_eq.mp he with h1 | h1; exact hno e h1; subst h1; rw [← hG.at (i := e) (j := 0) (by omega) (by omega), ← hG.at (i := e) (j := 1) (by omega) (by omega), ← hG.at (i := e) (j := 2) (by omega) (by omega)]; exact fun z => c31 z.2.1)
        · skip
          refine z_aload_n (q := 35) C 0 rfl rfl dX1_placeOf_34 rfl ?_
          refine z_get (q := 38) (v := .ref (b 2)) C hiX1 0 2 rfl rfl (by decide) hf18 rfl dX1_placeOf_35 rfl ?_
          refine z_iload (q := 40) C 4 rfl dX1_placeOf_38 rfl ?_
          refine z_iald (q := 41) C 3 rfl (i := i) (by omega) (by decide) dX1_placeOf_40 rfl ?_
          refine z_iload_n (q := 42) C 3 rfl rfl dX1_placeOf_41 rfl ?_
          refine z_icmp_ne (q := 45) (tgt := 48) C dX1_placeOf_42 (by decide) rfl (fun c42 => ?_) (fun c42 => ?_)
          · skip
            refine z_iinc (q := 51) (v := nI (i + 1)) (lv' := [(4, .int (nI (i + 1))), (0, .ref h), (1, .int s), (2, .int p), (3, .int o)]) C 4 dX1_placeOf_48 rfl rfl (k_inc1 i) (by decide) rfl ?_
            refine z_goto (tgt := 3) C dX1_placeOf_51 (by decide) ?_
            refine z_lv [1, 2, 3, 4, 0] rfl ?_
            exact ih (i + 1) (by omega) (by omega) (fun e he => by rcases Nat.lt_succ_iff_lt_or_eq.mp he with h1 | h1; exact hno e h1; subst h1; rw [← hG.at (i := e) (j := 0) (by omega) (by omega), ← hG.at (i := e) (j := 1) (by omega) (by omega), ← hG.at (i := e) (j := 2) (by omega) (by omega)]; exact fun z => c42 z.2.2)
          · skip
            refine z_iload (q := 47) C 4 rfl dX1_placeOf_45 rfl ?_
            refine z_iret C E (by omega) (by omega) dX1_placeOf_47 ?_
            refine ⟨?_, rfl⟩
            rw [findR_some (j := i) (by rw [hG.1]; omega) (by rw [← hG.at (i := i) (j := 0) (by omega) (by omega), ← hG.at (i := i) (j := 1) (by omega) (by omega), ← hG.at (i := i) (j := 2) (by omega) (by omega)]; exact ⟨c20, c31, c42⟩) hno]

set_option maxHeartbeats 4000000 in
set_option maxRecDepth 100000 in
theorem c_X1_placeOf (l : Launch) (D : va_G) (g : ClassId × ClassId × ClassId) (h : Nat) (b : Nat → Nat) (G : Nat → Nat → Int32) (k : Nat) (GL : List Row) (hG : givRep G k GL) (s p o : Int32) : zM l yX1_placeOf wsX1_placeOf ({ frames := 0, cells := 0, slots := 0, locals := 0 } : Room) D g [.ref h, .int s, .int p, .int o] [(h, .inr (1, [.ref (b 0), .ref (b 1), .ref (b 2), .int (nI k)])), (b 0, .inl (g.1, 80, .inl (G 0))), (b 1, .inl (g.1, 80, .inl (G 1))), (b 2, .inl (g.1, 80, .inl (G 2)))] 0 0 (fun v w1 => v = some (.int (findR GL s p o)) ∧ w1 = [(h, .inr (1, [.ref (b 0), .ref (b 1), .ref (b 2), .int (nI k)])), (b 0, .inl (g.1, 80, .inl (G 0))), (b 1, .inl (g.1, 80, .inl (G 1))), (b 2, .inl (g.1, 80, .inl (G 2)))]) := by
  refine z_met (cc := cX1_placeOf) (maxL := 5) (ret := (some .int)) (lv := [(0, .ref h), (1, .int s), (2, .int p), (3, .int o)]) (by decide) rfl (Nat.le_of_ble_eq_true rfl) rfl ?_
  intro X hXD hXg hXl hnm C E
  subst hXD hXg hXl
  have C : zC X cX1_placeOf 5 RX1 wsX1_placeOf ({ frames := 0, cells := 0, slots := 0, locals := 0 } : Room) := C
  have hk8 := hG.le
  refine z_iconst (q := 1) C k_iconst_0 dX1_placeOf_0 rfl ?_
  refine z_istore (q := 3) (lv' := [(4, .int (nI 0)), (0, .ref h), (1, .int s), (2, .int p), (3, .int o)]) C dX1_placeOf_1 rfl (by decide) rfl ?_
  refine z_lv [1, 2, 3, 4, 0] rfl ?_
  exact l_X1_placeOf h b G k GL hG s p o C E (k + 1) 0 (by omega) (by omega) (fun e he => absurd he (Nat.not_lt_zero e))

def gfF (G : Nat → Nat → Int32) (f0 f1 f2 : Nat → Int32) : Nat → Nat → Int32 := fun j => match j with
  | 0 => f0
  | 1 => f1
  | 2 => f2
  | m => G m
def gRow (s p o : Int32) : Row := mkRow s p o (-1) (-1) (-1) (nI 0)
theorem givRep.add {G : Nat → Nat → Int32} {k : Nat} {GL : List Row} (h : givRep G k GL) (hk : k < 80) (s p o : Int32) : givRep (gfF G (upd (G 0) k s) (upd (G 1) k p) (upd (G 2) k o)) (k + 1) (GL ++ [gRow s p o]) := by
  obtain ⟨h1, h2, h3⟩ := h
  refine ⟨by simp [h1], by omega, fun i j hi hj => ?_⟩
  rcases Nat.lt_succ_iff_lt_or_eq.mp hi with hi | rfl
  · rw [getD_app1 (by omega), ← h3 i j hi hj]
    match j, hj with
    | 0, _ => exact if_neg (by omega)
    | 1, _ => exact if_neg (by omega)
    | 2, _ => exact if_neg (by omega)
  · rw [show (GL ++ [gRow s p o]).getD i r0 = gRow s p o from by rw [← h1]; exact getD_app2]
    match j, hj with
    | 0, _ => exact if_pos rfl
    | 1, _ => exact if_pos rfl
    | 2, _ => exact if_pos rfl

set_option maxHeartbeats 4000000 in
set_option maxRecDepth 100000 in
theorem c_X1_append (l : Launch) (D : va_G) (g : ClassId × ClassId × ClassId) (h : Nat) (b : Nat → Nat) (G : Nat → Nat → Int32) (k : Nat) (GL : List Row) (hG : givRep G k GL) (hk : k < 80) (s p o : Int32) : zM l yX1_append wsX1_append ({ frames := 0, cells := 0, slots := 0, locals := 0 } : Room) D g [.ref h, .int s, .int p, .int o] [(h, .inr (1, [.ref (b 0), .ref (b 1), .ref (b 2), .int (nI k)])), (b 0, .inl (g.1, 80, .inl (G 0))), (b 1, .inl (g.1, 80, .inl (G 1))), (b 2, .inl (g.1, 80, .inl (G 2)))] 0 0 (fun v w1 => ∃ G1 : Nat → Nat → Int32, givRep G1 (k + 1) (GL ++ [gRow s p o]) ∧ v = none ∧ w1 = [(h, .inr (1, [.ref (b 0), .ref (b 1), .ref (b 2), .int (nI (k + 1))])), (b 0, .inl (g.1, 80, .inl (G1 0))), (b 1, .inl (g.1, 80, .inl (G1 1))), (b 2, .inl (g.1, 80, .inl (G1 2)))]) := by
  refine z_met (cc := cX1_append) (maxL := 4) (ret := none) (lv := [(0, .ref h), (1, .int s), (2, .int p), (3, .int o)]) (by decide) rfl (Nat.le_of_ble_eq_true rfl) rfl ?_
  intro X hXD hXg hXl hnm C E
  subst hXD hXg hXl
  have C : zC X cX1_append 4 RX1 wsX1_append ({ frames := 0, cells := 0, slots := 0, locals := 0 } : Room) := C
  have hiX1 : ∀ w ∈ u_ws RX1 TX1 4, w ∈ wsX1_append := by decide +kernel
  have hf9 : Cond.fieldLink RX1 9 "RdfsRules$GivenFacts" "subjects" "[I" ∈ wsX1_append := by decide +kernel
  have hf15 : Cond.fieldLink RX1 15 "RdfsRules$GivenFacts" "properties" "[I" ∈ wsX1_append := by decide +kernel
  have hf18 : Cond.fieldLink RX1 18 "RdfsRules$GivenFacts" "objects" "[I" ∈ wsX1_append := by decide +kernel
  have hf21 : Cond.fieldLink RX1 21 "RdfsRules$GivenFacts" "size" "I" ∈ wsX1_append := by decide +kernel
  refine z_aload_n (q := 1) C 0 rfl rfl dX1_append_0 rfl ?_
  refine z_get (q := 4) (v := .ref (b 0)) C hiX1 0 0 rfl rfl (by decide) hf9 rfl dX1_append_1 rfl ?_
  refine z_aload_n (q := 5) C 0 rfl rfl dX1_append_4 rfl ?_
  refine z_get (q := 8) (v := .int (nI k)) C hiX1 0 3 rfl rfl (by decide) hf21 rfl dX1_append_5 rfl ?_
  refine z_iload_n (q := 9) C 1 rfl rfl dX1_append_8 rfl ?_
  refine z_iast (q := 10) (ws' := [(h, .inr (1, [.ref (b 0), .ref (b 1), .ref (b 2), .int (nI k)])), (b 0, .inl (X.cI, 80, .inl (upd (G 0) k s))), (b 1, .inl (X.cI, 80, .inl (G 1))), (b 2, .inl (X.cI, 80, .inl (G 2)))]) C 1 rfl (i := k) (by omega) (by decide) dX1_append_9 rfl rfl ?_
  refine z_aload_n (q := 11) C 0 rfl rfl dX1_append_10 rfl ?_
  refine z_get (q := 14) (v := .ref (b 1)) C hiX1 0 1 rfl rfl (by decide) hf15 rfl dX1_append_11 rfl ?_
  refine z_aload_n (q := 15) C 0 rfl rfl dX1_append_14 rfl ?_
  refine z_get (q := 18) (v := .int (nI k)) C hiX1 0 3 rfl rfl (by decide) hf21 rfl dX1_append_15 rfl ?_
  refine z_iload_n (q := 19) C 2 rfl rfl dX1_append_18 rfl ?_
  refine z_iast (q := 20) (ws' := [(h, .inr (1, [.ref (b 0), .ref (b 1), .ref (b 2), .int (nI k)])), (b 0, .inl (X.cI, 80, .inl (upd (G 0) k s))), (b 1, .inl (X.cI, 80, .inl (upd (G 1) k p))), (b 2, .inl (X.cI, 80, .inl (G 2)))]) C 2 rfl (i := k) (by omega) (by decide) dX1_append_19 rfl rfl ?_
  refine z_aload_n (q := 21) C 0 rfl rfl dX1_append_20 rfl ?_
  refine z_get (q := 24) (v := .ref (b 2)) C hiX1 0 2 rfl rfl (by decide) hf18 rfl dX1_append_21 rfl ?_
  refine z_aload_n (q := 25) C 0 rfl rfl dX1_append_24 rfl ?_
  refine z_get (q := 28) (v := .int (nI k)) C hiX1 0 3 rfl rfl (by decide) hf21 rfl dX1_append_25 rfl ?_
  refine z_iload_n (q := 29) C 3 rfl rfl dX1_append_28 rfl ?_
  refine z_iast (q := 30) (ws' := [(h, .inr (1, [.ref (b 0), .ref (b 1), .ref (b 2), .int (nI k)])), (b 0, .inl (X.cI, 80, .inl (upd (G 0) k s))), (b 1, .inl (X.cI, 80, .inl (upd (G 1) k p))), (b 2, .inl (X.cI, 80, .inl (upd (G 2) k o)))]) C 3 rfl (i := k) (by omega) (by decide) dX1_append_29 rfl rfl ?_
  refine z_aload_n (q := 31) C 0 rfl rfl dX1_append_30 rfl ?_
  refine z_dup (q := 32) C rfl dX1_append_31 rfl ?_
  refine z_get (q := 35) (v := .int (nI k)) C hiX1 0 3 rfl rfl (by decide) hf21 rfl dX1_append_32 rfl ?_
  refine z_iconst (q := 36) C k_iconst_1 dX1_append_35 rfl ?_
  refine z_iadd (q := 37) C dX1_append_36 rfl ?_
  refine z_eqi (y := nI (k + 1)) (nI_add k 1) ?_
  refine z_put (q := 40) (ws' := [(h, .inr (1, [.ref (b 0), .ref (b 1), .ref (b 2), .int (nI (k + 1))])), (b 0, .inl (X.cI, 80, .inl (upd (G 0) k s))), (b 1, .inl (X.cI, 80, .inl (upd (G 1) k p))), (b 2, .inl (X.cI, 80, .inl (upd (G 2) k o)))]) C hiX1 tyX1_ok nmX1 0 3 rfl rfl (by decide) hf21 rfl rfl rfl (Nat.le_of_ble_eq_true rfl) dX1_append_37 rfl rfl ?_
  refine z_vret C E (by omega) (by omega) dX1_append_40 ?_
  exact ⟨gfF G (upd (G 0) k s) (upd (G 1) k p) (upd (G 2) k o), hG.add hk s p o, rfl, rfl⟩

theorem givRep.drop {G G1 : Nat → Nat → Int32} {k p : Nat} {GL : List Row} (h : givRep G k GL) (hp : p < k) (h1 : ∀ j q, j < 3 → G1 j q = if p ≤ q ∧ q < k - 1 then G j (q + 1) else G j q) : givRep G1 (k - 1) (GL.eraseIdx p) := by
  obtain ⟨a1, a2, a3⟩ := h
  refine ⟨by rw [List.length_eraseIdx, if_pos (by omega), a1], by omega, fun i j hi hj => ?_⟩
  rw [h1 j i hj]
  simp only [List.getD_eq_getElem?_getD, List.getElem?_eraseIdx]
  split
  · rename_i c
    rw [if_neg (by omega), ← List.getD_eq_getElem?_getD]
    exact a3 (i + 1) j (by omega) hj
  · rename_i c
    rw [if_pos (by omega), ← List.getD_eq_getElem?_getD]
    exact a3 i j (by omega) hj

set_option maxHeartbeats 4000000 in
set_option maxRecDepth 100000 in
theorem l_X1_dropAt {X : zX} (h : Nat) (b : Nat → Nat) (G : Nat → Nat → Int32) (k : Nat) (GL : List Row) (hG : givRep G k GL) (p : Nat) (hp : p < k) (C : zC X cX1_dropAt 3 RX1 wsX1_dropAt ({ frames := 0, cells := 0, slots := 0, locals := 0 } : Room)) (E : zE X none 0 0 (fun v w1 => ∃ G1 : Nat → Nat → Int32, givRep G1 (k - 1) (GL.eraseIdx p) ∧ v = none ∧ w1 = [(h, .inr (1, [.ref (b 0), .ref (b 1), .ref (b 2), .int (nI (k - 1))])), (b 0, .inl (X.cI, 80, .inl (G1 0))), (b 1, .inl (X.cI, 80, .inl (G1 1))), (b 2, .inl (X.cI, 80, .inl (G1 2)))])) : ∀ (m : Nat) (i : Nat) (H : Nat → Nat → Int32), p ≤ i → i < k → k < i + m → (∀ j q, j < 3 → H j q = if p ≤ q ∧ q < i then G j (q + 1) else G j q) → zW X 3 [(h, .inr (1, [.ref (b 0), .ref (b 1), .ref (b 2), .int (nI k)])), (b 0, .inl (X.cI, 80, .inl (H 0))), (b 1, .inl (X.cI, 80, .inl (H 1))), (b 2, .inl (X.cI, 80, .inl (H 2)))] 0 0 2 [(0, .ref h), (1, .int (nI p)), (2, .int (nI i))] [] := by
  have hiX1 : ∀ w ∈ u_ws RX1 TX1 4, w ∈ wsX1_dropAt := by decide +kernel
  have hf9 : Cond.fieldLink RX1 9 "RdfsRules$GivenFacts" "subjects" "[I" ∈ wsX1_dropAt := by decide +kernel
  have hf15 : Cond.fieldLink RX1 15 "RdfsRules$GivenFacts" "properties" "[I" ∈ wsX1_dropAt := by decide +kernel
  have hf18 : Cond.fieldLink RX1 18 "RdfsRules$GivenFacts" "objects" "[I" ∈ wsX1_dropAt := by decide +kernel
  have hf21 : Cond.fieldLink RX1 21 "RdfsRules$GivenFacts" "size" "I" ∈ wsX1_dropAt := by decide +kernel
  intro m
  induction m with
  | zero =>
    intro i H hpi hi hm hH
    exfalso
    omega
  | succ m ih =>
    intro i H hpi hi hm hH
    have hk8 := hG.le
    refine z_iload_n (q := 3) C 2 rfl rfl dX1_dropAt_2 rfl ?_
    refine z_iconst (q := 4) C k_iconst_1 dX1_dropAt_3 rfl ?_
    refine z_iadd (q := 5) C dX1_dropAt_4 rfl ?_
    refine z_eqi (y := nI (i + 1)) (nI_add i 1) ?_
    refine z_aload_n (q := 6) C 0 rfl rfl dX1_dropAt_5 rfl ?_
    refine z_get (q := 9) (v := .int (nI k)) C hiX1 0 3 rfl rfl (by decide) hf21 rfl dX1_dropAt_6 rfl ?_
    refine z_icmp_ge_n (q := 12) (tgt := 60) C (by omega) (by omega) dX1_dropAt_9 (by decide) rfl (fun c9 => ?_) (fun c9 => ?_)
    · skip
      refine z_aload_n (q := 61) C 0 rfl rfl dX1_dropAt_60 rfl ?_
      refine z_dup (q := 62) C rfl dX1_dropAt_61 rfl ?_
      refine z_get (q := 65) (v := .int (nI k)) C hiX1 0 3 rfl rfl (by decide) hf21 rfl dX1_dropAt_62 rfl ?_
      refine z_iconst (q := 66) C k_iconst_1 dX1_dropAt_65 rfl ?_
      refine z_isub (q := 67) C dX1_dropAt_66 rfl ?_
      refine z_eqi (y := nI (k - 1)) (pk_sub (a := k) (b := 1) (by omega)) ?_
      refine z_put (q := 70) (ws' := [(h, .inr (1, [.ref (b 0), .ref (b 1), .ref (b 2), .int (nI (k - 1))])), (b 0, .inl (X.cI, 80, .inl (H 0))), (b 1, .inl (X.cI, 80, .inl (H 1))), (b 2, .inl (X.cI, 80, .inl (H 2)))]) C hiX1 tyX1_ok nmX1 0 3 rfl rfl (by decide) hf21 rfl rfl rfl (Nat.le_of_ble_eq_true rfl) dX1_dropAt_67 rfl rfl ?_
      refine z_vret C E (by omega) (by omega) dX1_dropAt_70 ?_
      exact ⟨H, hG.drop hp (fun j q hj => by rw [hH j q hj, show i = k - 1 by omega]), rfl, rfl⟩
    · skip
      refine z_aload_n (q := 13) C 0 rfl rfl dX1_dropAt_12 rfl ?_
      refine z_get (q := 16) (v := .ref (b 0)) C hiX1 0 0 rfl rfl (by decide) hf9 rfl dX1_dropAt_13 rfl ?_
      refine z_iload_n (q := 17) C 2 rfl rfl dX1_dropAt_16 rfl ?_
      refine z_aload_n (q := 18) C 0 rfl rfl dX1_dropAt_17 rfl ?_
      refine z_get (q := 21) (v := .ref (b 0)) C hiX1 0 0 rfl rfl (by decide) hf9 rfl dX1_dropAt_18 rfl ?_
      refine z_iload_n (q := 22) C 2 rfl rfl dX1_dropAt_21 rfl ?_
      refine z_iconst (q := 23) C k_iconst_1 dX1_dropAt_22 rfl ?_
      refine z_iadd (q := 24) C dX1_dropAt_23 rfl ?_
      refine z_eqi (y := nI (i + 1)) (nI_add i 1) ?_
      refine z_iald (q := 25) C 1 rfl (i := i + 1) (by omega) (by decide) dX1_dropAt_24 rfl ?_
      refine z_iast (q := 26) (ws' := [(h, .inr (1, [.ref (b 0), .ref (b 1), .ref (b 2), .int (nI k)])), (b 0, .inl (X.cI, 80, .inl (upd (H 0) i ((H 0) (i + 1))))), (b 1, .inl (X.cI, 80, .inl (H 1))), (b 2, .inl (X.cI, 80, .inl (H 2)))]) C 1 rfl (i := i) (by omega) (by decide) dX1_dropAt_25 rfl rfl ?_
      refine z_aload_n (q := 27) C 0 rfl rfl dX1_dropAt_26 rfl ?_
      refine z_get (q := 30) (v := .ref (b 1)) C hiX1 0 1 rfl rfl (by decide) hf15 rfl dX1_dropAt_27 rfl ?_
      refine z_iload_n (q := 31) C 2 rfl rfl dX1_dropAt_30 rfl ?_
      refine z_aload_n (q := 32) C 0 rfl rfl dX1_dropAt_31 rfl ?_
      refine z_get (q := 35) (v := .ref (b 1)) C hiX1 0 1 rfl rfl (by decide) hf15 rfl dX1_dropAt_32 rfl ?_
      refine z_iload_n (q := 36) C 2 rfl rfl dX1_dropAt_35 rfl ?_
      refine z_iconst (q := 37) C k_iconst_1 dX1_dropAt_36 rfl ?_
      refine z_iadd (q := 38) C dX1_dropAt_37 rfl ?_
      refine z_eqi (y := nI (i + 1)) (nI_add i 1) ?_
      refine z_iald (q := 39) C 2 rfl (i := i + 1) (by omega) (by decide) dX1_dropAt_38 rfl ?_
      refine z_iast (q := 40) (ws' := [(h, .inr (1, [.ref (b 0), .ref (b 1), .ref (b 2), .int (nI k)])), (b 0, .inl (X.cI, 80, .inl (upd (H 0) i ((H 0) (i + 1))))), (b 1, .inl (X.cI, 80, .inl (upd (H 1) i ((H 1) (i + 1))))), (b 2, .inl (X.cI, 80, .inl (H 2)))]) C 2 rfl (i := i) (by omega) (by decide) dX1_dropAt_39 rfl rfl ?_
      refine z_aload_n (q := 41) C 0 rfl rfl dX1_dropAt_40 rfl ?_
      refine z_get (q := 44) (v := .ref (b 2)) C hiX1 0 2 rfl rfl (by decide) hf18 rfl dX1_dropAt_41 rfl ?_
      refine z_iload_n (q := 45) C 2 rfl rfl dX1_dropAt_44 rfl ?_
      refine z_aload_n (q := 46) C 0 rfl rfl dX1_dropAt_45 rfl ?_
      refine z_get (q := 49) (v := .ref (b 2)) C hiX1 0 2 rfl rfl (by decide) hf18 rfl dX1_dropAt_46 rfl ?_
      refine z_iload_n (q := 50) C 2 rfl rfl dX1_dropAt_49 rfl ?_
      refine z_iconst (q := 51) C k_iconst_1 dX1_dropAt_50 rfl ?_
      refine z_iadd (q := 52) C dX1_dropAt_51 rfl ?_
      refine z_eqi (y := nI (i + 1)) (nI_add i 1) ?_
      refine z_iald (q := 53) C 3 rfl (i := i + 1) (by omega) (by decide) dX1_dropAt_52 rfl ?_
      refine z_iast (q := 54) (ws' := [(h, .inr (1, [.ref (b 0), .ref (b 1), .ref (b 2), .int (nI k)])), (b 0, .inl (X.cI, 80, .inl (upd (H 0) i ((H 0) (i + 1))))), (b 1, .inl (X.cI, 80, .inl (upd (H 1) i ((H 1) (i + 1))))), (b 2, .inl (X.cI, 80, .inl (upd (H 2) i ((H 2) (i + 1)))))]) C 3 rfl (i := i) (by omega) (by decide) dX1_dropAt_53 rfl rfl ?_
      refine z_iinc (q := 57) (v := nI (i + 1)) (lv' := [(2, .int (nI (i + 1))), (0, .ref h), (1, .int (nI p))]) C 2 dX1_dropAt_54 rfl rfl (k_inc1 i) (by decide) rfl ?_
      refine z_goto (tgt := 2) C dX1_dropAt_57 (by decide) ?_
      refine z_lv [1, 2, 0] rfl ?_
      refine ih (i + 1) (gfF H (upd (H 0) i (H 0 (i + 1))) (upd (H 1) i (H 1 (i + 1))) (upd (H 2) i (H 2 (i + 1)))) (by omega) (by omega) (by omega) (fun j q hj => ?_)
      have key : (if q = i then H j (i + 1) else H j q) = if p ≤ q ∧ q < i + 1 then G j (q + 1) else G j q := by
        split
        · rename_i e
          subst e
          rw [hH j (q + 1) hj, if_neg (by omega), if_pos (by omega)]
        · rw [hH j q hj]
          by_cases c : p ≤ q ∧ q < i
          · rw [if_pos c, if_pos (by omega)]
          · rw [if_neg c, if_neg (by omega)]
      match j, hj with
      | 0, _ => exact key
      | 1, _ => exact key
      | 2, _ => exact key

set_option maxHeartbeats 4000000 in
set_option maxRecDepth 100000 in
theorem c_X1_dropAt (l : Launch) (D : va_G) (g : ClassId × ClassId × ClassId) (h : Nat) (b : Nat → Nat) (G : Nat → Nat → Int32) (k : Nat) (GL : List Row) (hG : givRep G k GL) (p : Nat) (hp : p < k) : zM l yX1_dropAt wsX1_dropAt ({ frames := 0, cells := 0, slots := 0, locals := 0 } : Room) D g [.ref h, .int (nI p)] [(h, .inr (1, [.ref (b 0), .ref (b 1), .ref (b 2), .int (nI k)])), (b 0, .inl (g.1, 80, .inl (G 0))), (b 1, .inl (g.1, 80, .inl (G 1))), (b 2, .inl (g.1, 80, .inl (G 2)))] 0 0 (fun v w1 => ∃ G1 : Nat → Nat → Int32, givRep G1 (k - 1) (GL.eraseIdx p) ∧ v = none ∧ w1 = [(h, .inr (1, [.ref (b 0), .ref (b 1), .ref (b 2), .int (nI (k - 1))])), (b 0, .inl (g.1, 80, .inl (G1 0))), (b 1, .inl (g.1, 80, .inl (G1 1))), (b 2, .inl (g.1, 80, .inl (G1 2)))]) := by
  refine z_met (cc := cX1_dropAt) (maxL := 3) (ret := none) (lv := [(0, .ref h), (1, .int (nI p))]) (by decide) rfl (Nat.le_of_ble_eq_true rfl) rfl ?_
  intro X hXD hXg hXl hnm C E
  subst hXD hXg hXl
  have C : zC X cX1_dropAt 3 RX1 wsX1_dropAt ({ frames := 0, cells := 0, slots := 0, locals := 0 } : Room) := C
  have hk8 := hG.le
  refine z_iload_n (q := 1) C 1 rfl rfl dX1_dropAt_0 rfl ?_
  refine z_istore_n (q := 2) (lv' := [(2, .int (nI p)), (0, .ref h), (1, .int (nI p))]) C rfl dX1_dropAt_1 rfl (by decide) rfl ?_
  refine z_lv [1, 2, 0] rfl ?_
  exact l_X1_dropAt h b G k GL hG p hp C E (k + 1) p G (by omega) (by omega) (by omega) (fun j q hj => by rw [if_neg (by omega)])

def givN (GL : List Row) (S : RSt) : Nat → RSt
  | 0 => S
  | i + 1 => addR (givN GL S i) (gRow (GL.getD i r0 0) (GL.getD i r0 1) (GL.getD i r0 2))

set_option maxHeartbeats 4000000 in
set_option maxRecDepth 100000 in
theorem l_X1_appendTo {X : zX} (h1 : Nat) (b : Nat → Nat) (G : Nat → Nat → Int32) (k : Nat) (GL : List Row) (hG : givRep G k GL) (h : Nat) (a : Nat → Nat) (am : Int32) (S : RSt) (C : zC X cX1_appendTo 3 RX1 wsX1_appendTo ({ frames := 2, cells := 0, slots := 0, locals := 54 } : Room)) (E : zE X none 0 0 (fun v w1 => ∃ (F1 : Nat → Nat → Int32) (n1 : Nat) (o1 : Bool), rowsRep F1 n1 o1 (givN GL S k) ∧ v = none ∧ w1 = [(h1, .inr (1, [.ref (b 0), .ref (b 1), .ref (b 2), .int (nI k)])), (b 0, .inl (X.cI, 80, .inl (G 0))), (b 1, .inl (X.cI, 80, .inl (G 1))), (b 2, .inl (X.cI, 80, .inl (G 2))), (h, .inr (3, [.ref (a 0), .ref (a 1), .ref (a 2), .ref (a 3), .ref (a 4), .ref (a 5), .ref (a 6), .ref (a 7), .ref (a 8), .int (nI n1), .int (zb o1), .int am])), (a 0, .inl (X.cI, 600, .inl (F1 0))), (a 1, .inl (X.cI, 600, .inl (F1 1))), (a 2, .inl (X.cI, 600, .inl (F1 2))), (a 3, .inl (X.cI, 600, .inl (F1 3))), (a 4, .inl (X.cI, 600, .inl (F1 4))), (a 5, .inl (X.cI, 600, .inl (F1 5))), (a 6, .inl (X.cI, 600, .inl (F1 6))), (a 7, .inl (X.cI, 1024, .inl (F1 7))), (a 8, .inl (X.cZ, 600, .inl (F1 8)))])) : ∀ (m : Nat) (i : Nat) (F : Nat → Nat → Int32) (n : Nat) (ov : Bool), i ≤ k → k < i + m → rowsRep F n ov (givN GL S i) → zW X 3 [(h1, .inr (1, [.ref (b 0), .ref (b 1), .ref (b 2), .int (nI k)])), (b 0, .inl (X.cI, 80, .inl (G 0))), (b 1, .inl (X.cI, 80, .inl (G 1))), (b 2, .inl (X.cI, 80, .inl (G 2))), (h, .inr (3, [.ref (a 0), .ref (a 1), .ref (a 2), .ref (a 3), .ref (a 4), .ref (a 5), .ref (a 6), .ref (a 7), .ref (a 8), .int (nI n), .int (zb ov), .int am])), (a 0, .inl (X.cI, 600, .inl (F 0))), (a 1, .inl (X.cI, 600, .inl (F 1))), (a 2, .inl (X.cI, 600, .inl (F 2))), (a 3, .inl (X.cI, 600, .inl (F 3))), (a 4, .inl (X.cI, 600, .inl (F 4))), (a 5, .inl (X.cI, 600, .inl (F 5))), (a 6, .inl (X.cI, 600, .inl (F 6))), (a 7, .inl (X.cI, 1024, .inl (F 7))), (a 8, .inl (X.cZ, 600, .inl (F 8)))] 0 0 2 [(0, .ref h1), (1, .ref h), (2, .int (nI i))] [] := by
  have hiX1 : ∀ w ∈ u_ws RX1 TX1 4, w ∈ wsX1_appendTo := by decide +kernel
  have hf9 : Cond.fieldLink RX1 9 "RdfsRules$GivenFacts" "subjects" "[I" ∈ wsX1_appendTo := by decide +kernel
  have hf15 : Cond.fieldLink RX1 15 "RdfsRules$GivenFacts" "properties" "[I" ∈ wsX1_appendTo := by decide +kernel
  have hf18 : Cond.fieldLink RX1 18 "RdfsRules$GivenFacts" "objects" "[I" ∈ wsX1_appendTo := by decide +kernel
  have hf21 : Cond.fieldLink RX1 21 "RdfsRules$GivenFacts" "size" "I" ∈ wsX1_appendTo := by decide +kernel
  intro m
  induction m with
  | zero =>
    intro i F n ov hi hm hR
    exfalso
    omega
  | succ m ih =>
    intro i F n ov hi hm hR
    have hk8 := hG.le
    refine z_iload_n (q := 3) C 2 rfl rfl dX1_appendTo_2 rfl ?_
    refine z_aload_n (q := 4) C 0 rfl rfl dX1_appendTo_3 rfl ?_
    refine z_get (q := 7) (v := .int (nI k)) C hiX1 0 3 rfl rfl (by decide) hf21 rfl dX1_appendTo_4 rfl ?_
    refine z_icmp_ge_n (q := 10) (tgt := 42) C (by omega) (by omega) dX1_appendTo_7 (by decide) rfl (fun c7 => ?_) (fun c7 => ?_)
    · skip
      refine z_vret C E (by omega) (by omega) dX1_appendTo_42 ?_
      obtain rfl : i = k := by omega
      exact ⟨F, n, ov, hR, rfl, rfl⟩
    · skip
      refine z_aload_n (q := 11) C 1 rfl rfl dX1_appendTo_10 rfl ?_
      refine z_aload_n (q := 12) C 0 rfl rfl dX1_appendTo_11 rfl ?_
      refine z_get (q := 15) (v := .ref (b 0)) C hiX1 0 0 rfl rfl (by decide) hf9 rfl dX1_appendTo_12 rfl ?_
      refine z_iload_n (q := 16) C 2 rfl rfl dX1_appendTo_15 rfl ?_
      refine z_iald (q := 17) C 1 rfl (i := i) (by omega) (by decide) dX1_appendTo_16 rfl ?_
      refine z_aload_n (q := 18) C 0 rfl rfl dX1_appendTo_17 rfl ?_
      refine z_get (q := 21) (v := .ref (b 1)) C hiX1 0 1 rfl rfl (by decide) hf15 rfl dX1_appendTo_18 rfl ?_
      refine z_iload_n (q := 22) C 2 rfl rfl dX1_appendTo_21 rfl ?_
      refine z_iald (q := 23) C 2 rfl (i := i) (by omega) (by decide) dX1_appendTo_22 rfl ?_
      refine z_aload_n (q := 24) C 0 rfl rfl dX1_appendTo_23 rfl ?_
      refine z_get (q := 27) (v := .ref (b 2)) C hiX1 0 2 rfl rfl (by decide) hf18 rfl dX1_appendTo_24 rfl ?_
      refine z_iload_n (q := 28) C 2 rfl rfl dX1_appendTo_27 rfl ?_
      refine z_iald (q := 29) C 3 rfl (i := i) (by omega) (by decide) dX1_appendTo_28 rfl ?_
      refine z_iconst (q := 30) C k_iconst_m1 dX1_appendTo_29 rfl ?_
      refine z_iconst (q := 31) C k_iconst_m1 dX1_appendTo_30 rfl ?_
      refine z_iconst (q := 32) C k_iconst_m1 dX1_appendTo_31 rfl ?_
      refine z_iconst (q := 33) C k_iconst_0 dX1_appendTo_32 rfl ?_
      refine z_callV (q := 36) (n := 7) (As := [.int ((G 0) i), .int ((G 1) i), .int ((G 2) i), .int (-1), .int (-1), .int (-1), .int (nI 0)]) (rest := []) (wr := [(h1, .inr (1, [.ref (b 0), .ref (b 1), .ref (b 2), .int (nI k)])), (b 0, .inl (X.cI, 80, .inl (G 0))), (b 1, .inl (X.cI, 80, .inl (G 1))), (b 2, .inl (X.cI, 80, .inl (G 2)))]) C (c_X3_addNew X.l X.D X.2.1 h a F n ov am (givN GL S i) hR (G 0 i) (G 1 i) (G 2 i) (-1) (-1) (-1) (nI 0)) gX1_appendTo_X3_addNew rfl rfl rfl (by decide +kernel) (by decide) ⟨by first | decide | omega, by first | decide | omega⟩ 0 3 rfl rfl [4, 5, 6, 7, 8, 9, 10, 11, 12, 13] [0, 1, 2, 3] rfl rfl (by decide) (by decide) (by decide) rfl rfl (Nat.le_of_ble_eq_true rfl) dX1_appendTo_33 rfl (fun v w1 hp => ?_)
      obtain ⟨F1, n1, o1, hR1, rfl, rfl⟩ := hp
      show zW X 3 [(h1, .inr (1, [.ref (b 0), .ref (b 1), .ref (b 2), .int (nI k)])), (b 0, .inl (X.cI, 80, .inl (G 0))), (b 1, .inl (X.cI, 80, .inl (G 1))), (b 2, .inl (X.cI, 80, .inl (G 2))), (h, .inr (3, [.ref (a 0), .ref (a 1), .ref (a 2), .ref (a 3), .ref (a 4), .ref (a 5), .ref (a 6), .ref (a 7), .ref (a 8), .int (nI n1), .int (zb o1), .int am])), (a 0, .inl (X.cI, 600, .inl (F1 0))), (a 1, .inl (X.cI, 600, .inl (F1 1))), (a 2, .inl (X.cI, 600, .inl (F1 2))), (a 3, .inl (X.cI, 600, .inl (F1 3))), (a 4, .inl (X.cI, 600, .inl (F1 4))), (a 5, .inl (X.cI, 600, .inl (F1 5))), (a 6, .inl (X.cI, 600, .inl (F1 6))), (a 7, .inl (X.cI, 1024, .inl (F1 7))), (a 8, .inl (X.cZ, 600, .inl (F1 8)))] _ _ 36 _ []
      refine z_iinc (q := 39) (v := nI (i + 1)) (lv' := [(2, .int (nI (i + 1))), (0, .ref h1), (1, .ref h)]) C 2 dX1_appendTo_36 rfl rfl (k_inc1 i) (by decide) rfl ?_
      refine z_goto (tgt := 2) C dX1_appendTo_39 (by decide) ?_
      refine z_lv [1, 2, 0] rfl ?_
      exact ih (i + 1) F1 n1 o1 (by omega) (by omega) (by show rowsRep F1 n1 o1 (addR _ (gRow _ _ _)); rw [← hG.at (i := i) (j := 0) (by omega) (by omega), ← hG.at (i := i) (j := 1) (by omega) (by omega), ← hG.at (i := i) (j := 2) (by omega) (by omega)]; exact hR1)

set_option maxHeartbeats 4000000 in
set_option maxRecDepth 100000 in
theorem c_X1_appendTo (l : Launch) (D : va_G) (g : ClassId × ClassId × ClassId) (h1 : Nat) (b : Nat → Nat) (G : Nat → Nat → Int32) (k : Nat) (GL : List Row) (hG : givRep G k GL) (h : Nat) (a : Nat → Nat) (F : Nat → Nat → Int32) (n : Nat) (ov : Bool) (am : Int32) (S : RSt) (hR : rowsRep F n ov S) : zM l yX1_appendTo wsX1_appendTo ({ frames := 2, cells := 0, slots := 0, locals := 54 } : Room) D g [.ref h1, .ref h] [(h1, .inr (1, [.ref (b 0), .ref (b 1), .ref (b 2), .int (nI k)])), (b 0, .inl (g.1, 80, .inl (G 0))), (b 1, .inl (g.1, 80, .inl (G 1))), (b 2, .inl (g.1, 80, .inl (G 2))), (h, .inr (3, [.ref (a 0), .ref (a 1), .ref (a 2), .ref (a 3), .ref (a 4), .ref (a 5), .ref (a 6), .ref (a 7), .ref (a 8), .int (nI n), .int (zb ov), .int am])), (a 0, .inl (g.1, 600, .inl (F 0))), (a 1, .inl (g.1, 600, .inl (F 1))), (a 2, .inl (g.1, 600, .inl (F 2))), (a 3, .inl (g.1, 600, .inl (F 3))), (a 4, .inl (g.1, 600, .inl (F 4))), (a 5, .inl (g.1, 600, .inl (F 5))), (a 6, .inl (g.1, 600, .inl (F 6))), (a 7, .inl (g.1, 1024, .inl (F 7))), (a 8, .inl (g.2.1, 600, .inl (F 8)))] 0 0 (fun v w1 => ∃ (F1 : Nat → Nat → Int32) (n1 : Nat) (o1 : Bool), rowsRep F1 n1 o1 (givN GL S k) ∧ v = none ∧ w1 = [(h1, .inr (1, [.ref (b 0), .ref (b 1), .ref (b 2), .int (nI k)])), (b 0, .inl (g.1, 80, .inl (G 0))), (b 1, .inl (g.1, 80, .inl (G 1))), (b 2, .inl (g.1, 80, .inl (G 2))), (h, .inr (3, [.ref (a 0), .ref (a 1), .ref (a 2), .ref (a 3), .ref (a 4), .ref (a 5), .ref (a 6), .ref (a 7), .ref (a 8), .int (nI n1), .int (zb o1), .int am])), (a 0, .inl (g.1, 600, .inl (F1 0))), (a 1, .inl (g.1, 600, .inl (F1 1))), (a 2, .inl (g.1, 600, .inl (F1 2))), (a 3, .inl (g.1, 600, .inl (F1 3))), (a 4, .inl (g.1, 600, .inl (F1 4))), (a 5, .inl (g.1, 600, .inl (F1 5))), (a 6, .inl (g.1, 600, .inl (F1 6))), (a 7, .inl (g.1, 1024, .inl (F1 7))), (a 8, .inl (g.2.1, 600, .inl (F1 8)))]) := by
  refine z_met (cc := cX1_appendTo) (maxL := 3) (ret := none) (lv := [(0, .ref h1), (1, .ref h)]) (by decide) rfl (Nat.le_of_ble_eq_true rfl) rfl ?_
  intro X hXD hXg hXl hnm C E
  subst hXD hXg hXl
  have C : zC X cX1_appendTo 3 RX1 wsX1_appendTo ({ frames := 2, cells := 0, slots := 0, locals := 54 } : Room) := C
  have hk8 := hG.le
  refine z_iconst (q := 1) C k_iconst_0 dX1_appendTo_0 rfl ?_
  refine z_istore_n (q := 2) (lv' := [(2, .int (nI 0)), (0, .ref h1), (1, .ref h)]) C rfl dX1_appendTo_1 rfl (by decide) rfl ?_
  refine z_lv [1, 2, 0] rfl ?_
  exact l_X1_appendTo h1 b G k GL hG h a am S C E (k + 1) 0 F n ov (by omega) (by omega) hR
end
section
/-! the rules -/
abbrev Fact : Type := Int32 × Int32 × Int32
def oneL (nl : Nat) (f : Nat → Int32) (rule : Nat) (s p o : Int32) : List Fact := match rule with
  | 0 => if litB nl o = true then [(o, nI 0, f (o.toInt.toNat - 300))] else []
  | 1 => [(p, nI 0, nI 1)]
  | 4 => [(s, nI 0, nI 2), (o, nI 0, nI 2)]
  | 6 => if p = nI 0 ∧ o = nI 1 then [(s, nI 5, s)] else []
  | 8 => if p = nI 0 ∧ o = nI 3 then [(s, nI 4, nI 2)] else []
  | 10 => if p = nI 0 ∧ o = nI 3 then [(s, nI 4, s)] else []
  | 12 => if p = nI 0 ∧ o = nI 11 then [(s, nI 5, nI 10)] else []
  | 13 => if p = nI 0 ∧ o = nI 9 then [(s, nI 4, nI 8)] else []
  | _ => []
def twoL (nl : Nat) (rule : Nat) (c d s p o : Int32) : List Fact := match rule with
  | 2 => if p = c then [(s, nI 0, d)] else []
  | 3 => if p = c then [(o, nI 0, d)] else []
  | 5 => if p = nI 5 ∧ s = d then [(c, nI 5, o)] else []
  | 7 => if p = c ∧ litB nl d = false then [(s, d, o)] else []
  | 9 => if p = nI 0 ∧ o = c then [(s, nI 0, d)] else []
  | 11 => if p = nI 4 ∧ s = d then [(c, nI 4, o)] else []
  | _ => []
def addL (S : RSt) (rule : Nat) (x y rd : Int32) (ts : List Fact) : RSt := ts.foldl (fun S t => addR S (mkRow t.1 t.2.1 t.2.2 (nI rule) x y rd)) S
def firstP (rule : Nat) : Int32 := match rule with
  | 2 => nI 6
  | 3 => nI 7
  | 5 => nI 5
  | 7 => nI 5
  | 9 => nI 4
  | 11 => nI 4
  | _ => (-1)
end
section
set_option maxHeartbeats 4000000 in
set_option maxRecDepth 100000 in
theorem c_X2_make (l : Launch) (D : va_G) (g : ClassId × ClassId × ClassId) (hr ht : Nat) (sp en : Nat) (rd : Int32) (rule : Nat) (x y : Int32) (h : Nat) (a : Nat → Nat) (F : Nat → Nat → Int32) (n : Nat) (ov : Bool) (am : Int32) (S : RSt) (hR : rowsRep F n ov S) (s p o : Int32) : zM l yX2_make wsX2_make ({ frames := 2, cells := 0, slots := 0, locals := 54 } : Room) D g [.ref hr, .int s, .int p, .int o] [(hr, .inr (2, [.ref ht, .ref h, .int (nI sp), .int (nI en), .int rd, .int (nI rule), .int x, .int y])), (h, .inr (3, [.ref (a 0), .ref (a 1), .ref (a 2), .ref (a 3), .ref (a 4), .ref (a 5), .ref (a 6), .ref (a 7), .ref (a 8), .int (nI n), .int (zb ov), .int am])), (a 0, .inl (g.1, 600, .inl (F 0))), (a 1, .inl (g.1, 600, .inl (F 1))), (a 2, .inl (g.1, 600, .inl (F 2))), (a 3, .inl (g.1, 600, .inl (F 3))), (a 4, .inl (g.1, 600, .inl (F 4))), (a 5, .inl (g.1, 600, .inl (F 5))), (a 6, .inl (g.1, 600, .inl (F 6))), (a 7, .inl (g.1, 1024, .inl (F 7))), (a 8, .inl (g.2.1, 600, .inl (F 8)))] 0 0 (fun v w1 => ∃ (F1 : Nat → Nat → Int32) (n1 : Nat) (o1 : Bool), rowsRep F1 n1 o1 (addR S (mkRow s p o (nI rule) x y rd)) ∧ v = none ∧ w1 = [(hr, .inr (2, [.ref ht, .ref h, .int (nI sp), .int (nI en), .int rd, .int (nI rule), .int x, .int y])), (h, .inr (3, [.ref (a 0), .ref (a 1), .ref (a 2), .ref (a 3), .ref (a 4), .ref (a 5), .ref (a 6), .ref (a 7), .ref (a 8), .int (nI n1), .int (zb o1), .int am])), (a 0, .inl (g.1, 600, .inl (F1 0))), (a 1, .inl (g.1, 600, .inl (F1 1))), (a 2, .inl (g.1, 600, .inl (F1 2))), (a 3, .inl (g.1, 600, .inl (F1 3))), (a 4, .inl (g.1, 600, .inl (F1 4))), (a 5, .inl (g.1, 600, .inl (F1 5))), (a 6, .inl (g.1, 600, .inl (F1 6))), (a 7, .inl (g.1, 1024, .inl (F1 7))), (a 8, .inl (g.2.1, 600, .inl (F1 8)))]) := by
  refine z_met (cc := cX2_make) (maxL := 4) (ret := none) (lv := [(0, .ref hr), (1, .int s), (2, .int p), (3, .int o)]) (by decide) rfl (Nat.le_of_ble_eq_true rfl) rfl ?_
  intro X hXD hXg hXl hnm C E
  subst hXD hXg hXl
  have C : zC X cX2_make 4 RX2 wsX2_make ({ frames := 2, cells := 0, slots := 0, locals := 54 } : Room) := C
  have hiX2 : ∀ w ∈ u_ws RX2 TX2 8, w ∈ wsX2_make := by decide +kernel
  have hf18 : Cond.fieldLink RX2 18 "RdfsRules$Reasoner" "round" "I" ∈ wsX2_make := by decide +kernel
  have hf21 : Cond.fieldLink RX2 21 "RdfsRules$Reasoner" "maker" "I" ∈ wsX2_make := by decide +kernel
  have hf24 : Cond.fieldLink RX2 24 "RdfsRules$Reasoner" "first" "I" ∈ wsX2_make := by decide +kernel
  have hf27 : Cond.fieldLink RX2 27 "RdfsRules$Reasoner" "second" "I" ∈ wsX2_make := by decide +kernel
  have hf34 : Cond.fieldLink RX2 34 "RdfsRules$Reasoner" "rows" "LRdfsRules$Rows;" ∈ wsX2_make := by decide +kernel
  refine z_aload_n (q := 1) C 0 rfl rfl dX2_make_0 rfl ?_
  refine z_get (q := 4) (v := .ref h) C hiX2 0 1 rfl rfl (by decide) hf34 rfl dX2_make_1 rfl ?_
  refine z_iload_n (q := 5) C 1 rfl rfl dX2_make_4 rfl ?_
  refine z_iload_n (q := 6) C 2 rfl rfl dX2_make_5 rfl ?_
  refine z_iload_n (q := 7) C 3 rfl rfl dX2_make_6 rfl ?_
  refine z_aload_n (q := 8) C 0 rfl rfl dX2_make_7 rfl ?_
  refine z_get (q := 11) (v := .int (nI rule)) C hiX2 0 5 rfl rfl (by decide) hf21 rfl dX2_make_8 rfl ?_
  refine z_aload_n (q := 12) C 0 rfl rfl dX2_make_11 rfl ?_
  refine z_get (q := 15) (v := .int x) C hiX2 0 6 rfl rfl (by decide) hf24 rfl dX2_make_12 rfl ?_
  refine z_aload_n (q := 16) C 0 rfl rfl dX2_make_15 rfl ?_
  refine z_get (q := 19) (v := .int y) C hiX2 0 7 rfl rfl (by decide) hf27 rfl dX2_make_16 rfl ?_
  refine z_aload_n (q := 20) C 0 rfl rfl dX2_make_19 rfl ?_
  refine z_get (q := 23) (v := .int rd) C hiX2 0 4 rfl rfl (by decide) hf18 rfl dX2_make_20 rfl ?_
  refine z_callV (q := 26) (n := 7) (As := [.int s, .int p, .int o, .int (nI rule), .int x, .int y, .int rd]) (rest := []) (wr := [(hr, .inr (2, [.ref ht, .ref h, .int (nI sp), .int (nI en), .int rd, .int (nI rule), .int x, .int y]))]) C (c_X3_addNew X.l X.D X.2.1 h a F n ov am S hR s p o (nI rule) x y rd) gX2_make_X3_addNew rfl rfl rfl (by decide +kernel) (by decide) ⟨by first | decide | omega, by first | decide | omega⟩ 0 3 rfl rfl [1, 2, 3, 4, 5, 6, 7, 8, 9, 10] [0] rfl rfl (by decide) (by decide) (by decide) rfl rfl (Nat.le_of_ble_eq_true rfl) dX2_make_23 rfl (fun v w1 hp => ?_)
  obtain ⟨F1, n1, o1, hR1, rfl, rfl⟩ := hp
  show zW X 4 [(hr, .inr (2, [.ref ht, .ref h, .int (nI sp), .int (nI en), .int rd, .int (nI rule), .int x, .int y])), (h, .inr (3, [.ref (a 0), .ref (a 1), .ref (a 2), .ref (a 3), .ref (a 4), .ref (a 5), .ref (a 6), .ref (a 7), .ref (a 8), .int (nI n1), .int (zb o1), .int am])), (a 0, .inl (X.cI, 600, .inl (F1 0))), (a 1, .inl (X.cI, 600, .inl (F1 1))), (a 2, .inl (X.cI, 600, .inl (F1 2))), (a 3, .inl (X.cI, 600, .inl (F1 3))), (a 4, .inl (X.cI, 600, .inl (F1 4))), (a 5, .inl (X.cI, 600, .inl (F1 5))), (a 6, .inl (X.cI, 600, .inl (F1 6))), (a 7, .inl (X.cI, 1024, .inl (F1 7))), (a 8, .inl (X.cZ, 600, .inl (F1 8)))] _ _ 26 _ []
  refine z_vret C E (by omega) (by omega) dX2_make_26 ?_
  exact ⟨F1, n1, o1, hR1, rfl, rfl⟩

set_option maxHeartbeats 4000000 in
set_option maxRecDepth 100000 in
theorem c_X2_firstProperty (l : Launch) (D : va_G) (g : ClassId × ClassId × ClassId) (hr ht h : Nat) (sp en : Nat) (rd : Int32) (rule : Nat) (x y : Int32) (hru : rule = 0 ∨ rule = 1 ∨ rule = 2 ∨ rule = 3 ∨ rule = 4 ∨ rule = 5 ∨ rule = 6 ∨ rule = 7 ∨ rule = 8 ∨ rule = 9 ∨ rule = 10 ∨ rule = 11 ∨ rule = 12 ∨ rule = 13) : zM l yX2_firstProperty wsX2_firstProperty ({ frames := 0, cells := 0, slots := 0, locals := 0 } : Room) D g [.ref hr] [(hr, .inr (2, [.ref ht, .ref h, .int (nI sp), .int (nI en), .int rd, .int (nI rule), .int x, .int y]))] 0 0 (fun v w1 => v = some (.int (firstP rule)) ∧ w1 = [(hr, .inr (2, [.ref ht, .ref h, .int (nI sp), .int (nI en), .int rd, .int (nI rule), .int x, .int y]))]) := by
  refine z_met (cc := cX2_firstProperty) (maxL := 1) (ret := (some .int)) (lv := [(0, .ref hr)]) (by decide) rfl (Nat.le_of_ble_eq_true rfl) rfl ?_
  intro X hXD hXg hXl hnm C E
  subst hXD hXg hXl
  have C : zC X cX2_firstProperty 1 RX2 wsX2_firstProperty ({ frames := 0, cells := 0, slots := 0, locals := 0 } : Room) := C
  have hiX2 : ∀ w ∈ u_ws RX2 TX2 8, w ∈ wsX2_firstProperty := by decide +kernel
  have hf21 : Cond.fieldLink RX2 21 "RdfsRules$Reasoner" "maker" "I" ∈ wsX2_firstProperty := by decide +kernel
  rcases hru with rfl | rfl | rfl | rfl | rfl | rfl | rfl | rfl | rfl | rfl | rfl | rfl | rfl | rfl
  · skip
    refine z_aload_n (q := 1) C 0 rfl rfl dX2_firstProperty_0 rfl ?_
    refine z_get (q := 4) (v := .int (nI 0)) C hiX2 0 5 rfl rfl (by decide) hf21 rfl dX2_firstProperty_1 rfl ?_
    refine z_tableOut (tgt := 70) C dX2_firstProperty_4 (by decide) (by decide) ?_
    refine z_iconst (q := 71) C k_iconst_m1 dX2_firstProperty_70 rfl ?_
    refine z_iret C E (by omega) (by omega) dX2_firstProperty_71 ?_
    exact ⟨rfl, rfl⟩
  · skip
    refine z_aload_n (q := 1) C 0 rfl rfl dX2_firstProperty_0 rfl ?_
    refine z_get (q := 4) (v := .int (nI 1)) C hiX2 0 5 rfl rfl (by decide) hf21 rfl dX2_firstProperty_1 rfl ?_
    refine z_tableOut (tgt := 70) C dX2_firstProperty_4 (by decide) (by decide) ?_
    refine z_iconst (q := 71) C k_iconst_m1 dX2_firstProperty_70 rfl ?_
    refine z_iret C E (by omega) (by omega) dX2_firstProperty_71 ?_
    exact ⟨rfl, rfl⟩
  · skip
    refine z_aload_n (q := 1) C 0 rfl rfl dX2_firstProperty_0 rfl ?_
    refine z_get (q := 4) (v := .int (nI 2)) C hiX2 0 5 rfl rfl (by decide) hf21 rfl dX2_firstProperty_1 rfl ?_
    refine z_tableIn (off := 56) (tgt := 60) C dX2_firstProperty_4 (by decide) (by decide) (by decide) (by decide) ?_
    refine z_bipush (q := 62) C k_bipush_6 dX2_firstProperty_60 rfl ?_
    refine z_iret C E (by omega) (by omega) dX2_firstProperty_62 ?_
    exact ⟨rfl, rfl⟩
  · skip
    refine z_aload_n (q := 1) C 0 rfl rfl dX2_firstProperty_0 rfl ?_
    refine z_get (q := 4) (v := .int (nI 3)) C hiX2 0 5 rfl rfl (by decide) hf21 rfl dX2_firstProperty_1 rfl ?_
    refine z_tableIn (off := 59) (tgt := 63) C dX2_firstProperty_4 (by decide) (by decide) (by decide) (by decide) ?_
    refine z_bipush (q := 65) C k_bipush_7 dX2_firstProperty_63 rfl ?_
    refine z_iret C E (by omega) (by omega) dX2_firstProperty_65 ?_
    exact ⟨rfl, rfl⟩
  · skip
    refine z_aload_n (q := 1) C 0 rfl rfl dX2_firstProperty_0 rfl ?_
    refine z_get (q := 4) (v := .int (nI 4)) C hiX2 0 5 rfl rfl (by decide) hf21 rfl dX2_firstProperty_1 rfl ?_
    refine z_tableIn (off := 66) (tgt := 70) C dX2_firstProperty_4 (by decide) (by decide) (by decide) (by decide) ?_
    refine z_iconst (q := 71) C k_iconst_m1 dX2_firstProperty_70 rfl ?_
    refine z_iret C E (by omega) (by omega) dX2_firstProperty_71 ?_
    exact ⟨rfl, rfl⟩
  · skip
    refine z_aload_n (q := 1) C 0 rfl rfl dX2_firstProperty_0 rfl ?_
    refine z_get (q := 4) (v := .int (nI 5)) C hiX2 0 5 rfl rfl (by decide) hf21 rfl dX2_firstProperty_1 rfl ?_
    refine z_tableIn (off := 62) (tgt := 66) C dX2_firstProperty_4 (by decide) (by decide) (by decide) (by decide) ?_
    refine z_iconst (q := 67) C k_iconst_5 dX2_firstProperty_66 rfl ?_
    refine z_iret C E (by omega) (by omega) dX2_firstProperty_67 ?_
    exact ⟨rfl, rfl⟩
  · skip
    refine z_aload_n (q := 1) C 0 rfl rfl dX2_firstProperty_0 rfl ?_
    refine z_get (q := 4) (v := .int (nI 6)) C hiX2 0 5 rfl rfl (by decide) hf21 rfl dX2_firstProperty_1 rfl ?_
    refine z_tableIn (off := 66) (tgt := 70) C dX2_firstProperty_4 (by decide) (by decide) (by decide) (by decide) ?_
    refine z_iconst (q := 71) C k_iconst_m1 dX2_firstProperty_70 rfl ?_
    refine z_iret C E (by omega) (by omega) dX2_firstProperty_71 ?_
    exact ⟨rfl, rfl⟩
  · skip
    refine z_aload_n (q := 1) C 0 rfl rfl dX2_firstProperty_0 rfl ?_
    refine z_get (q := 4) (v := .int (nI 7)) C hiX2 0 5 rfl rfl (by decide) hf21 rfl dX2_firstProperty_1 rfl ?_
    refine z_tableIn (off := 62) (tgt := 66) C dX2_firstProperty_4 (by decide) (by decide) (by decide) (by decide) ?_
    refine z_iconst (q := 67) C k_iconst_5 dX2_firstProperty_66 rfl ?_
    refine z_iret C E (by omega) (by omega) dX2_firstProperty_67 ?_
    exact ⟨rfl, rfl⟩
  · skip
    refine z_aload_n (q := 1) C 0 rfl rfl dX2_firstProperty_0 rfl ?_
    refine z_get (q := 4) (v := .int (nI 8)) C hiX2 0 5 rfl rfl (by decide) hf21 rfl dX2_firstProperty_1 rfl ?_
    refine z_tableIn (off := 66) (tgt := 70) C dX2_firstProperty_4 (by decide) (by decide) (by decide) (by decide) ?_
    refine z_iconst (q := 71) C k_iconst_m1 dX2_firstProperty_70 rfl ?_
    refine z_iret C E (by omega) (by omega) dX2_firstProperty_71 ?_
    exact ⟨rfl, rfl⟩
  · skip
    refine z_aload_n (q := 1) C 0 rfl rfl dX2_firstProperty_0 rfl ?_
    refine z_get (q := 4) (v := .int (nI 9)) C hiX2 0 5 rfl rfl (by decide) hf21 rfl dX2_firstProperty_1 rfl ?_
    refine z_tableIn (off := 64) (tgt := 68) C dX2_firstProperty_4 (by decide) (by decide) (by decide) (by decide) ?_
    refine z_iconst (q := 69) C k_iconst_4 dX2_firstProperty_68 rfl ?_
    refine z_iret C E (by omega) (by omega) dX2_firstProperty_69 ?_
    exact ⟨rfl, rfl⟩
  · skip
    refine z_aload_n (q := 1) C 0 rfl rfl dX2_firstProperty_0 rfl ?_
    refine z_get (q := 4) (v := .int (nI 10)) C hiX2 0 5 rfl rfl (by decide) hf21 rfl dX2_firstProperty_1 rfl ?_
    refine z_tableIn (off := 66) (tgt := 70) C dX2_firstProperty_4 (by decide) (by decide) (by decide) (by decide) ?_
    refine z_iconst (q := 71) C k_iconst_m1 dX2_firstProperty_70 rfl ?_
    refine z_iret C E (by omega) (by omega) dX2_firstProperty_71 ?_
    exact ⟨rfl, rfl⟩
  · skip
    refine z_aload_n (q := 1) C 0 rfl rfl dX2_firstProperty_0 rfl ?_
    refine z_get (q := 4) (v := .int (nI 11)) C hiX2 0 5 rfl rfl (by decide) hf21 rfl dX2_firstProperty_1 rfl ?_
    refine z_tableIn (off := 64) (tgt := 68) C dX2_firstProperty_4 (by decide) (by decide) (by decide) (by decide) ?_
    refine z_iconst (q := 69) C k_iconst_4 dX2_firstProperty_68 rfl ?_
    refine z_iret C E (by omega) (by omega) dX2_firstProperty_69 ?_
    exact ⟨rfl, rfl⟩
  · skip
    refine z_aload_n (q := 1) C 0 rfl rfl dX2_firstProperty_0 rfl ?_
    refine z_get (q := 4) (v := .int (nI 12)) C hiX2 0 5 rfl rfl (by decide) hf21 rfl dX2_firstProperty_1 rfl ?_
    refine z_tableOut (tgt := 70) C dX2_firstProperty_4 (by decide) (by decide) ?_
    refine z_iconst (q := 71) C k_iconst_m1 dX2_firstProperty_70 rfl ?_
    refine z_iret C E (by omega) (by omega) dX2_firstProperty_71 ?_
    exact ⟨rfl, rfl⟩
  · skip
    refine z_aload_n (q := 1) C 0 rfl rfl dX2_firstProperty_0 rfl ?_
    refine z_get (q := 4) (v := .int (nI 13)) C hiX2 0 5 rfl rfl (by decide) hf21 rfl dX2_firstProperty_1 rfl ?_
    refine z_tableOut (tgt := 70) C dX2_firstProperty_4 (by decide) (by decide) ?_
    refine z_iconst (q := 71) C k_iconst_m1 dX2_firstProperty_70 rfl ?_
    refine z_iret C E (by omega) (by omega) dX2_firstProperty_71 ?_
    exact ⟨rfl, rfl⟩

def setP (rule : Nat) : Nat := match rule with
  | 5 => 0
  | 11 => 0
  | 9 => 2
  | _ => 1

set_option maxHeartbeats 4000000 in
set_option maxRecDepth 100000 in
theorem c_X2_settledParts (l : Launch) (D : va_G) (g : ClassId × ClassId × ClassId) (hr ht h : Nat) (a : Nat → Nat) (n : Nat) (ov : Bool) (am : Int32) (sp en : Nat) (rd : Int32) (rule : Nat) (x y : Int32) (hru : rule = 2 ∨ rule = 3 ∨ rule = 5 ∨ rule = 7 ∨ rule = 9 ∨ rule = 11) : zM l yX2_settledParts wsX2_settledParts ({ frames := 0, cells := 0, slots := 0, locals := 0 } : Room) D g [.ref hr] [(hr, .inr (2, [.ref ht, .ref h, .int (nI sp), .int (nI en), .int rd, .int (nI rule), .int x, .int y])), (h, .inr (3, [.ref (a 0), .ref (a 1), .ref (a 2), .ref (a 3), .ref (a 4), .ref (a 5), .ref (a 6), .ref (a 7), .ref (a 8), .int (nI n), .int (zb ov), .int am]))] 0 0 (fun v w1 => v = some (.ref (a (setP rule))) ∧ w1 = [(hr, .inr (2, [.ref ht, .ref h, .int (nI sp), .int (nI en), .int rd, .int (nI rule), .int x, .int y])), (h, .inr (3, [.ref (a 0), .ref (a 1), .ref (a 2), .ref (a 3), .ref (a 4), .ref (a 5), .ref (a 6), .ref (a 7), .ref (a 8), .int (nI n), .int (zb ov), .int am]))]) := by
  refine z_met (cc := cX2_settledParts) (maxL := 1) (ret := (some (.array .int))) (lv := [(0, .ref hr)]) (by decide) rfl (Nat.le_of_ble_eq_true rfl) rfl ?_
  intro X hXD hXg hXl hnm C E
  subst hXD hXg hXl
  have C : zC X cX2_settledParts 1 RX2 wsX2_settledParts ({ frames := 0, cells := 0, slots := 0, locals := 0 } : Room) := C
  have hiX2 : ∀ w ∈ u_ws RX2 TX2 8, w ∈ wsX2_settledParts := by decide +kernel
  have hiX3 : ∀ w ∈ u_ws RX3 TX3 12, w ∈ wsX2_settledParts := by decide +kernel
  have hf21 : Cond.fieldLink RX2 21 "RdfsRules$Reasoner" "maker" "I" ∈ wsX2_settledParts := by decide +kernel
  have hf34 : Cond.fieldLink RX2 34 "RdfsRules$Reasoner" "rows" "LRdfsRules$Rows;" ∈ wsX2_settledParts := by decide +kernel
  have hf57 : Cond.fieldLink RX2 57 "RdfsRules$Rows" "subjects" "[I" ∈ wsX2_settledParts := by decide +kernel
  have hf61 : Cond.fieldLink RX2 61 "RdfsRules$Rows" "objects" "[I" ∈ wsX2_settledParts := by decide +kernel
  have hf64 : Cond.fieldLink RX2 64 "RdfsRules$Rows" "properties" "[I" ∈ wsX2_settledParts := by decide +kernel
  rcases hru with rfl | rfl | rfl | rfl | rfl | rfl
  · skip
    refine z_aload_n (q := 1) C 0 rfl rfl dX2_settledParts_0 rfl ?_
    refine z_get (q := 4) (v := .int (nI 2)) C hiX2 0 5 rfl rfl (by decide) hf21 rfl dX2_settledParts_1 rfl ?_
    refine z_lookup (off := 52) (tgt := 56) C dX2_settledParts_4 (by decide) (by decide) (by decide) ?_
    refine z_aload_n (q := 57) C 0 rfl rfl dX2_settledParts_56 rfl ?_
    refine z_get (q := 60) (v := .ref h) C hiX2 0 1 rfl rfl (by decide) hf34 rfl dX2_settledParts_57 rfl ?_
    refine z_get (q := 63) (v := .ref (a 1)) C hiX3 1 1 rfl rfl (by decide) hf64 rfl dX2_settledParts_60 rfl ?_
    refine z_aret C E (by omega) (by omega) (by first | exact Or.inr ⟨_, rfl⟩ | exact Or.inl ⟨_, rfl⟩) dX2_settledParts_63 ?_
    exact ⟨rfl, rfl⟩
  · skip
    refine z_aload_n (q := 1) C 0 rfl rfl dX2_settledParts_0 rfl ?_
    refine z_get (q := 4) (v := .int (nI 3)) C hiX2 0 5 rfl rfl (by decide) hf21 rfl dX2_settledParts_1 rfl ?_
    refine z_lookup (off := 52) (tgt := 56) C dX2_settledParts_4 (by decide) (by decide) (by decide) ?_
    refine z_aload_n (q := 57) C 0 rfl rfl dX2_settledParts_56 rfl ?_
    refine z_get (q := 60) (v := .ref h) C hiX2 0 1 rfl rfl (by decide) hf34 rfl dX2_settledParts_57 rfl ?_
    refine z_get (q := 63) (v := .ref (a 1)) C hiX3 1 1 rfl rfl (by decide) hf64 rfl dX2_settledParts_60 rfl ?_
    refine z_aret C E (by omega) (by omega) (by first | exact Or.inr ⟨_, rfl⟩ | exact Or.inl ⟨_, rfl⟩) dX2_settledParts_63 ?_
    exact ⟨rfl, rfl⟩
  · skip
    refine z_aload_n (q := 1) C 0 rfl rfl dX2_settledParts_0 rfl ?_
    refine z_get (q := 4) (v := .int (nI 5)) C hiX2 0 5 rfl rfl (by decide) hf21 rfl dX2_settledParts_1 rfl ?_
    refine z_lookup (off := 36) (tgt := 40) C dX2_settledParts_4 (by decide) (by decide) (by decide) ?_
    refine z_aload_n (q := 41) C 0 rfl rfl dX2_settledParts_40 rfl ?_
    refine z_get (q := 44) (v := .ref h) C hiX2 0 1 rfl rfl (by decide) hf34 rfl dX2_settledParts_41 rfl ?_
    refine z_get (q := 47) (v := .ref (a 0)) C hiX3 1 0 rfl rfl (by decide) hf57 rfl dX2_settledParts_44 rfl ?_
    refine z_aret C E (by omega) (by omega) (by first | exact Or.inr ⟨_, rfl⟩ | exact Or.inl ⟨_, rfl⟩) dX2_settledParts_47 ?_
    exact ⟨rfl, rfl⟩
  · skip
    refine z_aload_n (q := 1) C 0 rfl rfl dX2_settledParts_0 rfl ?_
    refine z_get (q := 4) (v := .int (nI 7)) C hiX2 0 5 rfl rfl (by decide) hf21 rfl dX2_settledParts_1 rfl ?_
    refine z_lookup (off := 52) (tgt := 56) C dX2_settledParts_4 (by decide) (by decide) (by decide) ?_
    refine z_aload_n (q := 57) C 0 rfl rfl dX2_settledParts_56 rfl ?_
    refine z_get (q := 60) (v := .ref h) C hiX2 0 1 rfl rfl (by decide) hf34 rfl dX2_settledParts_57 rfl ?_
    refine z_get (q := 63) (v := .ref (a 1)) C hiX3 1 1 rfl rfl (by decide) hf64 rfl dX2_settledParts_60 rfl ?_
    refine z_aret C E (by omega) (by omega) (by first | exact Or.inr ⟨_, rfl⟩ | exact Or.inl ⟨_, rfl⟩) dX2_settledParts_63 ?_
    exact ⟨rfl, rfl⟩
  · skip
    refine z_aload_n (q := 1) C 0 rfl rfl dX2_settledParts_0 rfl ?_
    refine z_get (q := 4) (v := .int (nI 9)) C hiX2 0 5 rfl rfl (by decide) hf21 rfl dX2_settledParts_1 rfl ?_
    refine z_lookup (off := 44) (tgt := 48) C dX2_settledParts_4 (by decide) (by decide) (by decide) ?_
    refine z_aload_n (q := 49) C 0 rfl rfl dX2_settledParts_48 rfl ?_
    refine z_get (q := 52) (v := .ref h) C hiX2 0 1 rfl rfl (by decide) hf34 rfl dX2_settledParts_49 rfl ?_
    refine z_get (q := 55) (v := .ref (a 2)) C hiX3 1 2 rfl rfl (by decide) hf61 rfl dX2_settledParts_52 rfl ?_
    refine z_aret C E (by omega) (by omega) (by first | exact Or.inr ⟨_, rfl⟩ | exact Or.inl ⟨_, rfl⟩) dX2_settledParts_55 ?_
    exact ⟨rfl, rfl⟩
  · skip
    refine z_aload_n (q := 1) C 0 rfl rfl dX2_settledParts_0 rfl ?_
    refine z_get (q := 4) (v := .int (nI 11)) C hiX2 0 5 rfl rfl (by decide) hf21 rfl dX2_settledParts_1 rfl ?_
    refine z_lookup (off := 36) (tgt := 40) C dX2_settledParts_4 (by decide) (by decide) (by decide) ?_
    refine z_aload_n (q := 41) C 0 rfl rfl dX2_settledParts_40 rfl ?_
    refine z_get (q := 44) (v := .ref h) C hiX2 0 1 rfl rfl (by decide) hf34 rfl dX2_settledParts_41 rfl ?_
    refine z_get (q := 47) (v := .ref (a 0)) C hiX3 1 0 rfl rfl (by decide) hf57 rfl dX2_settledParts_44 rfl ?_
    refine z_aret C E (by omega) (by omega) (by first | exact Or.inr ⟨_, rfl⟩ | exact Or.inl ⟨_, rfl⟩) dX2_settledParts_47 ?_
    exact ⟨rfl, rfl⟩

set_option maxHeartbeats 4000000 in
set_option maxRecDepth 100000 in
theorem c_X2_makeOfOne (l : Launch) (D : va_G) (g : ClassId × ClassId × ClassId) (hr ht : Nat) (sp en : Nat) (rd : Int32) (rule : Nat) (x y : Int32) (ta nl : Nat) (hnl : nl ≤ 40) (tf : Nat → Int32) (h : Nat) (a : Nat → Nat) (F : Nat → Nat → Int32) (n : Nat) (ov : Bool) (am : Int32) (S : RSt) (hR : rowsRep F n ov S) (s p o : Int32) (hru : rule = 0 ∨ rule = 1 ∨ rule = 4 ∨ rule = 6 ∨ rule = 8 ∨ rule = 10 ∨ rule = 12 ∨ rule = 13) : zM l yX2_makeOfOne wsX2_makeOfOne ({ frames := 3, cells := 0, slots := 0, locals := 77 } : Room) D g [.ref hr, .int s, .int p, .int o] [(hr, .inr (2, [.ref ht, .ref h, .int (nI sp), .int (nI en), .int rd, .int (nI rule), .int x, .int y])), (ht, .inr (4, [.ref ta, .int (nI nl)])), (ta, .inl (g.1, 40, .inl tf)), (h, .inr (3, [.ref (a 0), .ref (a 1), .ref (a 2), .ref (a 3), .ref (a 4), .ref (a 5), .ref (a 6), .ref (a 7), .ref (a 8), .int (nI n), .int (zb ov), .int am])), (a 0, .inl (g.1, 600, .inl (F 0))), (a 1, .inl (g.1, 600, .inl (F 1))), (a 2, .inl (g.1, 600, .inl (F 2))), (a 3, .inl (g.1, 600, .inl (F 3))), (a 4, .inl (g.1, 600, .inl (F 4))), (a 5, .inl (g.1, 600, .inl (F 5))), (a 6, .inl (g.1, 600, .inl (F 6))), (a 7, .inl (g.1, 1024, .inl (F 7))), (a 8, .inl (g.2.1, 600, .inl (F 8)))] 0 0 (fun v w1 => ∃ (F1 : Nat → Nat → Int32) (n1 : Nat) (o1 : Bool), rowsRep F1 n1 o1 (addL S rule x y rd (oneL nl tf rule s p o)) ∧ v = none ∧ w1 = [(hr, .inr (2, [.ref ht, .ref h, .int (nI sp), .int (nI en), .int rd, .int (nI rule), .int x, .int y])), (ht, .inr (4, [.ref ta, .int (nI nl)])), (ta, .inl (g.1, 40, .inl tf)), (h, .inr (3, [.ref (a 0), .ref (a 1), .ref (a 2), .ref (a 3), .ref (a 4), .ref (a 5), .ref (a 6), .ref (a 7), .ref (a 8), .int (nI n1), .int (zb o1), .int am])), (a 0, .inl (g.1, 600, .inl (F1 0))), (a 1, .inl (g.1, 600, .inl (F1 1))), (a 2, .inl (g.1, 600, .inl (F1 2))), (a 3, .inl (g.1, 600, .inl (F1 3))), (a 4, .inl (g.1, 600, .inl (F1 4))), (a 5, .inl (g.1, 600, .inl (F1 5))), (a 6, .inl (g.1, 600, .inl (F1 6))), (a 7, .inl (g.1, 1024, .inl (F1 7))), (a 8, .inl (g.2.1, 600, .inl (F1 8)))]) := by
  refine z_met (cc := cX2_makeOfOne) (maxL := 4) (ret := none) (lv := [(0, .ref hr), (1, .int s), (2, .int p), (3, .int o)]) (by decide) rfl (Nat.le_of_ble_eq_true rfl) rfl ?_
  intro X hXD hXg hXl hnm C E
  subst hXD hXg hXl
  have C : zC X cX2_makeOfOne 4 RX2 wsX2_makeOfOne ({ frames := 3, cells := 0, slots := 0, locals := 77 } : Room) := C
  have hiX2 : ∀ w ∈ u_ws RX2 TX2 8, w ∈ wsX2_makeOfOne := by decide +kernel
  have hf21 : Cond.fieldLink RX2 21 "RdfsRules$Reasoner" "maker" "I" ∈ wsX2_makeOfOne := by decide +kernel
  have hf30 : Cond.fieldLink RX2 30 "RdfsRules$Reasoner" "terms" "LRdfsRules$Terms;" ∈ wsX2_makeOfOne := by decide +kernel
  rcases hru with rfl | rfl | rfl | rfl | rfl | rfl | rfl | rfl
  · skip
    refine z_aload_n (q := 1) C 0 rfl rfl dX2_makeOfOne_0 rfl ?_
    refine z_get (q := 4) (v := .int (nI 0)) C hiX2 0 5 rfl rfl (by decide) hf21 rfl dX2_makeOfOne_1 rfl ?_
    refine z_if_ne_n (q := 7) (tgt := 35) C (by omega) dX2_makeOfOne_4 (by decide) rfl (fun c4 => ?_) (fun c4 => ?_)
    · exact absurd c4 (by decide)
    · skip
      refine z_aload_n (q := 8) C 0 rfl rfl dX2_makeOfOne_7 rfl ?_
      refine z_get (q := 11) (v := .ref ht) C hiX2 0 0 rfl rfl (by decide) hf30 rfl dX2_makeOfOne_8 rfl ?_
      refine z_iload_n (q := 12) C 3 rfl rfl dX2_makeOfOne_11 rfl ?_
      refine z_callV (q := 15) (n := 1) (As := [.int o]) (rest := []) (wr := [(hr, .inr (2, [.ref ht, .ref h, .int (nI sp), .int (nI en), .int rd, .int (nI 0), .int x, .int y])), (ta, .inl (X.cI, 40, .inl tf)), (h, .inr (3, [.ref (a 0), .ref (a 1), .ref (a 2), .ref (a 3), .ref (a 4), .ref (a 5), .ref (a 6), .ref (a 7), .ref (a 8), .int (nI n), .int (zb ov), .int am])), (a 0, .inl (X.cI, 600, .inl (F 0))), (a 1, .inl (X.cI, 600, .inl (F 1))), (a 2, .inl (X.cI, 600, .inl (F 2))), (a 3, .inl (X.cI, 600, .inl (F 3))), (a 4, .inl (X.cI, 600, .inl (F 4))), (a 5, .inl (X.cI, 600, .inl (F 5))), (a 6, .inl (X.cI, 600, .inl (F 6))), (a 7, .inl (X.cI, 1024, .inl (F 7))), (a 8, .inl (X.cZ, 600, .inl (F 8)))]) C (c_X4_isLiteral X.l X.D X.2.1 ht ta nl hnl o) gX2_makeOfOne_X4_isLiteral rfl rfl rfl (by decide +kernel) (by decide) ⟨by first | decide | omega, by first | decide | omega⟩ 0 4 rfl rfl [1] [0, 2, 3, 4, 5, 6, 7, 8, 9, 10, 11, 12] rfl rfl (by decide) (by decide) (by decide) rfl rfl (Nat.le_of_ble_eq_true rfl) dX2_makeOfOne_12 rfl (fun v w1 hp => ?_)
      obtain ⟨rfl, rfl⟩ := hp
      show zW X 4 [(hr, .inr (2, [.ref ht, .ref h, .int (nI sp), .int (nI en), .int rd, .int (nI 0), .int x, .int y])), (ta, .inl (X.cI, 40, .inl tf)), (h, .inr (3, [.ref (a 0), .ref (a 1), .ref (a 2), .ref (a 3), .ref (a 4), .ref (a 5), .ref (a 6), .ref (a 7), .ref (a 8), .int (nI n), .int (zb ov), .int am])), (a 0, .inl (X.cI, 600, .inl (F 0))), (a 1, .inl (X.cI, 600, .inl (F 1))), (a 2, .inl (X.cI, 600, .inl (F 2))), (a 3, .inl (X.cI, 600, .inl (F 3))), (a 4, .inl (X.cI, 600, .inl (F 4))), (a 5, .inl (X.cI, 600, .inl (F 5))), (a 6, .inl (X.cI, 600, .inl (F 6))), (a 7, .inl (X.cI, 1024, .inl (F 7))), (a 8, .inl (X.cZ, 600, .inl (F 8))), (ht, .inr (4, [.ref ta, .int (nI nl)]))] _ _ 15 _ [.int (zb (litB nl o))]
      refine z_if_eq_b (q := 18) (tgt := 35) C dX2_makeOfOne_15 (by decide) rfl (fun c15 => ?_) (fun c15 => ?_)
      · skip
        refine z_aload_n (q := 36) C 0 rfl rfl dX2_makeOfOne_35 rfl ?_
        refine z_get (q := 39) (v := .int (nI 0)) C hiX2 0 5 rfl rfl (by decide) hf21 rfl dX2_makeOfOne_36 rfl ?_
        refine z_iconst (q := 40) C k_iconst_1 dX2_makeOfOne_39 rfl ?_
        refine z_icmp_ne_n (q := 43) (tgt := 53) C (by omega) (by omega) dX2_makeOfOne_40 (by decide) rfl (fun c40 => ?_) (fun c40 => ?_)
        · skip
          refine z_aload_n (q := 54) C 0 rfl rfl dX2_makeOfOne_53 rfl ?_
          refine z_get (q := 57) (v := .int (nI 0)) C hiX2 0 5 rfl rfl (by decide) hf21 rfl dX2_makeOfOne_54 rfl ?_
          refine z_iconst (q := 58) C k_iconst_4 dX2_makeOfOne_57 rfl ?_
          refine z_icmp_ne_n (q := 61) (tgt := 78) C (by omega) (by omega) dX2_makeOfOne_58 (by decide) rfl (fun c58 => ?_) (fun c58 => ?_)
          · skip
            refine z_aload_n (q := 79) C 0 rfl rfl dX2_makeOfOne_78 rfl ?_
            refine z_get (q := 82) (v := .int (nI 0)) C hiX2 0 5 rfl rfl (by decide) hf21 rfl dX2_makeOfOne_79 rfl ?_
            refine z_bipush (q := 84) C k_bipush_6 dX2_makeOfOne_82 rfl ?_
            refine z_icmp_ne_n (q := 87) (tgt := 106) C (by omega) (by omega) dX2_makeOfOne_84 (by decide) rfl (fun c84 => ?_) (fun c84 => ?_)
            · skip
              refine z_aload_n (q := 107) C 0 rfl rfl dX2_makeOfOne_106 rfl ?_
              refine z_get (q := 110) (v := .int (nI 0)) C hiX2 0 5 rfl rfl (by decide) hf21 rfl dX2_makeOfOne_107 rfl ?_
              refine z_bipush (q := 112) C k_bipush_8 dX2_makeOfOne_110 rfl ?_
              refine z_icmp_ne_n (q := 115) (tgt := 134) C (by omega) (by omega) dX2_makeOfOne_112 (by decide) rfl (fun c112 => ?_) (fun c112 => ?_)
              · skip
                refine z_aload_n (q := 135) C 0 rfl rfl dX2_makeOfOne_134 rfl ?_
                refine z_get (q := 138) (v := .int (nI 0)) C hiX2 0 5 rfl rfl (by decide) hf21 rfl dX2_makeOfOne_135 rfl ?_
                refine z_bipush (q := 140) C k_bipush_10 dX2_makeOfOne_138 rfl ?_
                refine z_icmp_ne_n (q := 143) (tgt := 162) C (by omega) (by omega) dX2_makeOfOne_140 (by decide) rfl (fun c140 => ?_) (fun c140 => ?_)
                · skip
                  refine z_aload_n (q := 163) C 0 rfl rfl dX2_makeOfOne_162 rfl ?_
                  refine z_get (q := 166) (v := .int (nI 0)) C hiX2 0 5 rfl rfl (by decide) hf21 rfl dX2_makeOfOne_163 rfl ?_
                  refine z_bipush (q := 168) C k_bipush_12 dX2_makeOfOne_166 rfl ?_
                  refine z_icmp_ne_n (q := 171) (tgt := 192) C (by omega) (by omega) dX2_makeOfOne_168 (by decide) rfl (fun c168 => ?_) (fun c168 => ?_)
                  · skip
                    refine z_aload_n (q := 193) C 0 rfl rfl dX2_makeOfOne_192 rfl ?_
                    refine z_get (q := 196) (v := .int (nI 0)) C hiX2 0 5 rfl rfl (by decide) hf21 rfl dX2_makeOfOne_193 rfl ?_
                    refine z_bipush (q := 198) C k_bipush_13 dX2_makeOfOne_196 rfl ?_
                    refine z_icmp_ne_n (q := 201) (tgt := 219) C (by omega) (by omega) dX2_makeOfOne_198 (by decide) rfl (fun c198 => ?_) (fun c198 => ?_)
                    · skip
                      refine z_ws (ws' := [(hr, .inr (2, [.ref ht, .ref h, .int (nI sp), .int (nI en), .int rd, .int (nI 0), .int x, .int y])), (ht, .inr (4, [.ref ta, .int (nI nl)])), (ta, .inl (X.cI, 40, .inl tf)), (h, .inr (3, [.ref (a 0), .ref (a 1), .ref (a 2), .ref (a 3), .ref (a 4), .ref (a 5), .ref (a 6), .ref (a 7), .ref (a 8), .int (nI n), .int (zb ov), .int am])), (a 0, .inl (X.cI, 600, .inl (F 0))), (a 1, .inl (X.cI, 600, .inl (F 1))), (a 2, .inl (X.cI, 600, .inl (F 2))), (a 3, .inl (X.cI, 600, .inl (F 3))), (a 4, .inl (X.cI, 600, .inl (F 4))), (a 5, .inl (X.cI, 600, .inl (F 5))), (a 6, .inl (X.cI, 600, .inl (F 6))), (a 7, .inl (X.cI, 1024, .inl (F 7))), (a 8, .inl (X.cZ, 600, .inl (F 8)))]) [0, 12, 1, 2, 3, 4, 5, 6, 7, 8, 9, 10, 11] (by decide) rfl ?_
                      refine z_vret C E (by omega) (by omega) dX2_makeOfOne_219 ?_
                      refine ⟨F, n, ov, ?_, rfl, rfl⟩
                      rw [show oneL nl tf 0 s p o = _ from if_neg (by rw [c15]; decide)]
                      exact hR
                    · exact absurd c198 (by decide)
                  · exact absurd c168 (by decide)
                · exact absurd c140 (by decide)
              · exact absurd c112 (by decide)
            · exact absurd c84 (by decide)
          · exact absurd c58 (by decide)
        · exact absurd c40 (by decide)
      · skip
        refine z_aload_n (q := 19) C 0 rfl rfl dX2_makeOfOne_18 rfl ?_
        refine z_iload_n (q := 20) C 3 rfl rfl dX2_makeOfOne_19 rfl ?_
        refine z_iconst (q := 21) C k_iconst_0 dX2_makeOfOne_20 rfl ?_
        refine z_aload_n (q := 22) C 0 rfl rfl dX2_makeOfOne_21 rfl ?_
        refine z_get (q := 25) (v := .ref ht) C hiX2 0 0 rfl rfl (by decide) hf30 rfl dX2_makeOfOne_22 rfl ?_
        refine z_iload_n (q := 26) C 3 rfl rfl dX2_makeOfOne_25 rfl ?_
        refine z_callV (q := 29) (n := 1) (As := [.int o]) (rest := [.int (nI 0), .int o, .ref hr]) (wr := [(hr, .inr (2, [.ref ht, .ref h, .int (nI sp), .int (nI en), .int rd, .int (nI 0), .int x, .int y])), (h, .inr (3, [.ref (a 0), .ref (a 1), .ref (a 2), .ref (a 3), .ref (a 4), .ref (a 5), .ref (a 6), .ref (a 7), .ref (a 8), .int (nI n), .int (zb ov), .int am])), (a 0, .inl (X.cI, 600, .inl (F 0))), (a 1, .inl (X.cI, 600, .inl (F 1))), (a 2, .inl (X.cI, 600, .inl (F 2))), (a 3, .inl (X.cI, 600, .inl (F 3))), (a 4, .inl (X.cI, 600, .inl (F 4))), (a 5, .inl (X.cI, 600, .inl (F 5))), (a 6, .inl (X.cI, 600, .inl (F 6))), (a 7, .inl (X.cI, 1024, .inl (F 7))), (a 8, .inl (X.cZ, 600, .inl (F 8)))]) C (c_X4_typeOf X.l X.D X.2.1 ht ta tf nl hnl o) gX2_makeOfOne_X4_typeOf rfl rfl rfl (by decide +kernel) (by decide) ⟨by first | decide | omega, by first | decide | omega⟩ 0 4 rfl rfl [12, 1] [0, 2, 3, 4, 5, 6, 7, 8, 9, 10, 11] rfl rfl (by decide) (by decide) (by decide) rfl rfl (Nat.le_of_ble_eq_true rfl) dX2_makeOfOne_26 rfl (fun v w1 hp => ?_)
        obtain ⟨rfl, rfl⟩ := hp
        show zW X 4 [(hr, .inr (2, [.ref ht, .ref h, .int (nI sp), .int (nI en), .int rd, .int (nI 0), .int x, .int y])), (h, .inr (3, [.ref (a 0), .ref (a 1), .ref (a 2), .ref (a 3), .ref (a 4), .ref (a 5), .ref (a 6), .ref (a 7), .ref (a 8), .int (nI n), .int (zb ov), .int am])), (a 0, .inl (X.cI, 600, .inl (F 0))), (a 1, .inl (X.cI, 600, .inl (F 1))), (a 2, .inl (X.cI, 600, .inl (F 2))), (a 3, .inl (X.cI, 600, .inl (F 3))), (a 4, .inl (X.cI, 600, .inl (F 4))), (a 5, .inl (X.cI, 600, .inl (F 5))), (a 6, .inl (X.cI, 600, .inl (F 6))), (a 7, .inl (X.cI, 1024, .inl (F 7))), (a 8, .inl (X.cZ, 600, .inl (F 8))), (ht, .inr (4, [.ref ta, .int (nI nl)])), (ta, .inl (X.cI, 40, .inl tf))] _ _ 29 _ [.int (if litB nl o then tf (o.toInt.toNat - 300) else -1), .int (nI 0), .int o, .ref hr]
        refine z_eqi (y := tf (o.toInt.toNat - 300)) (if_pos c15) ?_
        refine z_callV (q := 32) (n := 3) (As := [.int o, .int (nI 0), .int (tf (o.toInt.toNat - 300))]) (rest := []) (wr := [(ht, .inr (4, [.ref ta, .int (nI nl)])), (ta, .inl (X.cI, 40, .inl tf))]) C (c_X2_make X.l X.D X.2.1 hr ht sp en rd 0 x y h a F n ov am S hR o (nI 0) (tf (o.toInt.toNat - 300))) gX2_makeOfOne_X2_make rfl rfl rfl (by decide +kernel) (by decide) ⟨by first | decide | omega, by first | decide | omega⟩ 0 2 rfl rfl [0, 1, 2, 3, 4, 5, 6, 7, 8, 9, 10] [11, 12] rfl rfl (by decide) (by decide) (by decide) rfl rfl (Nat.le_of_ble_eq_true rfl) dX2_makeOfOne_29 rfl (fun v w1 hp => ?_)
        obtain ⟨F1, n1, o1, hR1, rfl, rfl⟩ := hp
        show zW X 4 [(ht, .inr (4, [.ref ta, .int (nI nl)])), (ta, .inl (X.cI, 40, .inl tf)), (hr, .inr (2, [.ref ht, .ref h, .int (nI sp), .int (nI en), .int rd, .int (nI 0), .int x, .int y])), (h, .inr (3, [.ref (a 0), .ref (a 1), .ref (a 2), .ref (a 3), .ref (a 4), .ref (a 5), .ref (a 6), .ref (a 7), .ref (a 8), .int (nI n1), .int (zb o1), .int am])), (a 0, .inl (X.cI, 600, .inl (F1 0))), (a 1, .inl (X.cI, 600, .inl (F1 1))), (a 2, .inl (X.cI, 600, .inl (F1 2))), (a 3, .inl (X.cI, 600, .inl (F1 3))), (a 4, .inl (X.cI, 600, .inl (F1 4))), (a 5, .inl (X.cI, 600, .inl (F1 5))), (a 6, .inl (X.cI, 600, .inl (F1 6))), (a 7, .inl (X.cI, 1024, .inl (F1 7))), (a 8, .inl (X.cZ, 600, .inl (F1 8)))] _ _ 32 _ []
        refine z_goto (tgt := 219) C dX2_makeOfOne_32 (by decide) ?_
        refine z_ws (ws' := [(hr, .inr (2, [.ref ht, .ref h, .int (nI sp), .int (nI en), .int rd, .int (nI 0), .int x, .int y])), (ht, .inr (4, [.ref ta, .int (nI nl)])), (ta, .inl (X.cI, 40, .inl tf)), (h, .inr (3, [.ref (a 0), .ref (a 1), .ref (a 2), .ref (a 3), .ref (a 4), .ref (a 5), .ref (a 6), .ref (a 7), .ref (a 8), .int (nI n1), .int (zb o1), .int am])), (a 0, .inl (X.cI, 600, .inl (F1 0))), (a 1, .inl (X.cI, 600, .inl (F1 1))), (a 2, .inl (X.cI, 600, .inl (F1 2))), (a 3, .inl (X.cI, 600, .inl (F1 3))), (a 4, .inl (X.cI, 600, .inl (F1 4))), (a 5, .inl (X.cI, 600, .inl (F1 5))), (a 6, .inl (X.cI, 600, .inl (F1 6))), (a 7, .inl (X.cI, 1024, .inl (F1 7))), (a 8, .inl (X.cZ, 600, .inl (F1 8)))]) [2, 0, 1, 3, 4, 5, 6, 7, 8, 9, 10, 11, 12] (by decide) rfl ?_
        refine z_vret C E (by omega) (by omega) dX2_makeOfOne_219 ?_
        refine ⟨F1, n1, o1, ?_, rfl, rfl⟩
        rw [show oneL nl tf 0 s p o = _ from if_pos c15]
        exact hR1
  · skip
    refine z_aload_n (q := 1) C 0 rfl rfl dX2_makeOfOne_0 rfl ?_
    refine z_get (q := 4) (v := .int (nI 1)) C hiX2 0 5 rfl rfl (by decide) hf21 rfl dX2_makeOfOne_1 rfl ?_
    refine z_if_ne_n (q := 7) (tgt := 35) C (by omega) dX2_makeOfOne_4 (by decide) rfl (fun c4 => ?_) (fun c4 => ?_)
    · skip
      refine z_aload_n (q := 36) C 0 rfl rfl dX2_makeOfOne_35 rfl ?_
      refine z_get (q := 39) (v := .int (nI 1)) C hiX2 0 5 rfl rfl (by decide) hf21 rfl dX2_makeOfOne_36 rfl ?_
      refine z_iconst (q := 40) C k_iconst_1 dX2_makeOfOne_39 rfl ?_
      refine z_icmp_ne_n (q := 43) (tgt := 53) C (by omega) (by omega) dX2_makeOfOne_40 (by decide) rfl (fun c40 => ?_) (fun c40 => ?_)
      · exact absurd c40 (by decide)
      · skip
        refine z_aload_n (q := 44) C 0 rfl rfl dX2_makeOfOne_43 rfl ?_
        refine z_iload_n (q := 45) C 2 rfl rfl dX2_makeOfOne_44 rfl ?_
        refine z_iconst (q := 46) C k_iconst_0 dX2_makeOfOne_45 rfl ?_
        refine z_iconst (q := 47) C k_iconst_1 dX2_makeOfOne_46 rfl ?_
        refine z_callV (q := 50) (n := 3) (As := [.int p, .int (nI 0), .int (nI 1)]) (rest := []) (wr := [(ht, .inr (4, [.ref ta, .int (nI nl)])), (ta, .inl (X.cI, 40, .inl tf))]) C (c_X2_make X.l X.D X.2.1 hr ht sp en rd 1 x y h a F n ov am S hR p (nI 0) (nI 1)) gX2_makeOfOne_X2_make rfl rfl rfl (by decide +kernel) (by decide) ⟨by first | decide | omega, by first | decide | omega⟩ 0 2 rfl rfl [0, 3, 4, 5, 6, 7, 8, 9, 10, 11, 12] [1, 2] rfl rfl (by decide) (by decide) (by decide) rfl rfl (Nat.le_of_ble_eq_true rfl) dX2_makeOfOne_47 rfl (fun v w1 hp => ?_)
        obtain ⟨F1, n1, o1, hR1, rfl, rfl⟩ := hp
        show zW X 4 [(ht, .inr (4, [.ref ta, .int (nI nl)])), (ta, .inl (X.cI, 40, .inl tf)), (hr, .inr (2, [.ref ht, .ref h, .int (nI sp), .int (nI en), .int rd, .int (nI 1), .int x, .int y])), (h, .inr (3, [.ref (a 0), .ref (a 1), .ref (a 2), .ref (a 3), .ref (a 4), .ref (a 5), .ref (a 6), .ref (a 7), .ref (a 8), .int (nI n1), .int (zb o1), .int am])), (a 0, .inl (X.cI, 600, .inl (F1 0))), (a 1, .inl (X.cI, 600, .inl (F1 1))), (a 2, .inl (X.cI, 600, .inl (F1 2))), (a 3, .inl (X.cI, 600, .inl (F1 3))), (a 4, .inl (X.cI, 600, .inl (F1 4))), (a 5, .inl (X.cI, 600, .inl (F1 5))), (a 6, .inl (X.cI, 600, .inl (F1 6))), (a 7, .inl (X.cI, 1024, .inl (F1 7))), (a 8, .inl (X.cZ, 600, .inl (F1 8)))] _ _ 50 _ []
        refine z_goto (tgt := 219) C dX2_makeOfOne_50 (by decide) ?_
        refine z_ws (ws' := [(hr, .inr (2, [.ref ht, .ref h, .int (nI sp), .int (nI en), .int rd, .int (nI 1), .int x, .int y])), (ht, .inr (4, [.ref ta, .int (nI nl)])), (ta, .inl (X.cI, 40, .inl tf)), (h, .inr (3, [.ref (a 0), .ref (a 1), .ref (a 2), .ref (a 3), .ref (a 4), .ref (a 5), .ref (a 6), .ref (a 7), .ref (a 8), .int (nI n1), .int (zb o1), .int am])), (a 0, .inl (X.cI, 600, .inl (F1 0))), (a 1, .inl (X.cI, 600, .inl (F1 1))), (a 2, .inl (X.cI, 600, .inl (F1 2))), (a 3, .inl (X.cI, 600, .inl (F1 3))), (a 4, .inl (X.cI, 600, .inl (F1 4))), (a 5, .inl (X.cI, 600, .inl (F1 5))), (a 6, .inl (X.cI, 600, .inl (F1 6))), (a 7, .inl (X.cI, 1024, .inl (F1 7))), (a 8, .inl (X.cZ, 600, .inl (F1 8)))]) [2, 0, 1, 3, 4, 5, 6, 7, 8, 9, 10, 11, 12] (by decide) rfl ?_
        refine z_vret C E (by omega) (by omega) dX2_makeOfOne_219 ?_
        refine ⟨F1, n1, o1, ?_, rfl, rfl⟩
        rw [show oneL nl tf 1 s p o = _ from rfl]
        exact hR1
    · exact absurd c4 (by decide)
  · skip
    refine z_aload_n (q := 1) C 0 rfl rfl dX2_makeOfOne_0 rfl ?_
    refine z_get (q := 4) (v := .int (nI 4)) C hiX2 0 5 rfl rfl (by decide) hf21 rfl dX2_makeOfOne_1 rfl ?_
    refine z_if_ne_n (q := 7) (tgt := 35) C (by omega) dX2_makeOfOne_4 (by decide) rfl (fun c4 => ?_) (fun c4 => ?_)
    · skip
      refine z_aload_n (q := 36) C 0 rfl rfl dX2_makeOfOne_35 rfl ?_
      refine z_get (q := 39) (v := .int (nI 4)) C hiX2 0 5 rfl rfl (by decide) hf21 rfl dX2_makeOfOne_36 rfl ?_
      refine z_iconst (q := 40) C k_iconst_1 dX2_makeOfOne_39 rfl ?_
      refine z_icmp_ne_n (q := 43) (tgt := 53) C (by omega) (by omega) dX2_makeOfOne_40 (by decide) rfl (fun c40 => ?_) (fun c40 => ?_)
      · skip
        refine z_aload_n (q := 54) C 0 rfl rfl dX2_makeOfOne_53 rfl ?_
        refine z_get (q := 57) (v := .int (nI 4)) C hiX2 0 5 rfl rfl (by decide) hf21 rfl dX2_makeOfOne_54 rfl ?_
        refine z_iconst (q := 58) C k_iconst_4 dX2_makeOfOne_57 rfl ?_
        refine z_icmp_ne_n (q := 61) (tgt := 78) C (by omega) (by omega) dX2_makeOfOne_58 (by decide) rfl (fun c58 => ?_) (fun c58 => ?_)
        · exact absurd c58 (by decide)
        · skip
          refine z_aload_n (q := 62) C 0 rfl rfl dX2_makeOfOne_61 rfl ?_
          refine z_iload_n (q := 63) C 1 rfl rfl dX2_makeOfOne_62 rfl ?_
          refine z_iconst (q := 64) C k_iconst_0 dX2_makeOfOne_63 rfl ?_
          refine z_iconst (q := 65) C k_iconst_2 dX2_makeOfOne_64 rfl ?_
          refine z_callV (q := 68) (n := 3) (As := [.int s, .int (nI 0), .int (nI 2)]) (rest := []) (wr := [(ht, .inr (4, [.ref ta, .int (nI nl)])), (ta, .inl (X.cI, 40, .inl tf))]) C (c_X2_make X.l X.D X.2.1 hr ht sp en rd 4 x y h a F n ov am S hR s (nI 0) (nI 2)) gX2_makeOfOne_X2_make rfl rfl rfl (by decide +kernel) (by decide) ⟨by first | decide | omega, by first | decide | omega⟩ 0 2 rfl rfl [0, 3, 4, 5, 6, 7, 8, 9, 10, 11, 12] [1, 2] rfl rfl (by decide) (by decide) (by decide) rfl rfl (Nat.le_of_ble_eq_true rfl) dX2_makeOfOne_65 rfl (fun v w1 hp => ?_)
          obtain ⟨F1, n1, o1, hR1, rfl, rfl⟩ := hp
          show zW X 4 [(ht, .inr (4, [.ref ta, .int (nI nl)])), (ta, .inl (X.cI, 40, .inl tf)), (hr, .inr (2, [.ref ht, .ref h, .int (nI sp), .int (nI en), .int rd, .int (nI 4), .int x, .int y])), (h, .inr (3, [.ref (a 0), .ref (a 1), .ref (a 2), .ref (a 3), .ref (a 4), .ref (a 5), .ref (a 6), .ref (a 7), .ref (a 8), .int (nI n1), .int (zb o1), .int am])), (a 0, .inl (X.cI, 600, .inl (F1 0))), (a 1, .inl (X.cI, 600, .inl (F1 1))), (a 2, .inl (X.cI, 600, .inl (F1 2))), (a 3, .inl (X.cI, 600, .inl (F1 3))), (a 4, .inl (X.cI, 600, .inl (F1 4))), (a 5, .inl (X.cI, 600, .inl (F1 5))), (a 6, .inl (X.cI, 600, .inl (F1 6))), (a 7, .inl (X.cI, 1024, .inl (F1 7))), (a 8, .inl (X.cZ, 600, .inl (F1 8)))] _ _ 68 _ []
          refine z_aload_n (q := 69) C 0 rfl rfl dX2_makeOfOne_68 rfl ?_
          refine z_iload_n (q := 70) C 3 rfl rfl dX2_makeOfOne_69 rfl ?_
          refine z_iconst (q := 71) C k_iconst_0 dX2_makeOfOne_70 rfl ?_
          refine z_iconst (q := 72) C k_iconst_2 dX2_makeOfOne_71 rfl ?_
          refine z_callV (q := 75) (n := 3) (As := [.int o, .int (nI 0), .int (nI 2)]) (rest := []) (wr := [(ht, .inr (4, [.ref ta, .int (nI nl)])), (ta, .inl (X.cI, 40, .inl tf))]) C (c_X2_make X.l X.D X.2.1 hr ht sp en rd 4 x y h a F1 n1 o1 am (addR S (mkRow s (nI 0) (nI 2) (nI 4) x y rd)) hR1 o (nI 0) (nI 2)) gX2_makeOfOne_X2_make rfl rfl rfl (by decide +kernel) (by decide) ⟨by first | decide | omega, by first | decide | omega⟩ 0 2 rfl rfl [2, 3, 4, 5, 6, 7, 8, 9, 10, 11, 12] [0, 1] rfl rfl (by decide) (by decide) (by decide) rfl rfl (Nat.le_of_ble_eq_true rfl) dX2_makeOfOne_72 rfl (fun v w1 hp => ?_)
          obtain ⟨F2, n2, o2, hR2, rfl, rfl⟩ := hp
          show zW X 4 [(ht, .inr (4, [.ref ta, .int (nI nl)])), (ta, .inl (X.cI, 40, .inl tf)), (hr, .inr (2, [.ref ht, .ref h, .int (nI sp), .int (nI en), .int rd, .int (nI 4), .int x, .int y])), (h, .inr (3, [.ref (a 0), .ref (a 1), .ref (a 2), .ref (a 3), .ref (a 4), .ref (a 5), .ref (a 6), .ref (a 7), .ref (a 8), .int (nI n2), .int (zb o2), .int am])), (a 0, .inl (X.cI, 600, .inl (F2 0))), (a 1, .inl (X.cI, 600, .inl (F2 1))), (a 2, .inl (X.cI, 600, .inl (F2 2))), (a 3, .inl (X.cI, 600, .inl (F2 3))), (a 4, .inl (X.cI, 600, .inl (F2 4))), (a 5, .inl (X.cI, 600, .inl (F2 5))), (a 6, .inl (X.cI, 600, .inl (F2 6))), (a 7, .inl (X.cI, 1024, .inl (F2 7))), (a 8, .inl (X.cZ, 600, .inl (F2 8)))] _ _ 75 _ []
          refine z_goto (tgt := 219) C dX2_makeOfOne_75 (by decide) ?_
          refine z_ws (ws' := [(hr, .inr (2, [.ref ht, .ref h, .int (nI sp), .int (nI en), .int rd, .int (nI 4), .int x, .int y])), (ht, .inr (4, [.ref ta, .int (nI nl)])), (ta, .inl (X.cI, 40, .inl tf)), (h, .inr (3, [.ref (a 0), .ref (a 1), .ref (a 2), .ref (a 3), .ref (a 4), .ref (a 5), .ref (a 6), .ref (a 7), .ref (a 8), .int (nI n2), .int (zb o2), .int am])), (a 0, .inl (X.cI, 600, .inl (F2 0))), (a 1, .inl (X.cI, 600, .inl (F2 1))), (a 2, .inl (X.cI, 600, .inl (F2 2))), (a 3, .inl (X.cI, 600, .inl (F2 3))), (a 4, .inl (X.cI, 600, .inl (F2 4))), (a 5, .inl (X.cI, 600, .inl (F2 5))), (a 6, .inl (X.cI, 600, .inl (F2 6))), (a 7, .inl (X.cI, 1024, .inl (F2 7))), (a 8, .inl (X.cZ, 600, .inl (F2 8)))]) [2, 0, 1, 3, 4, 5, 6, 7, 8, 9, 10, 11, 12] (by decide) rfl ?_
          refine z_vret C E (by omega) (by omega) dX2_makeOfOne_219 ?_
          refine ⟨F2, n2, o2, ?_, rfl, rfl⟩
          rw [show oneL nl tf 4 s p o = _ from rfl]
          exact hR2
      · exact absurd c40 (by decide)
    · exact absurd c4 (by decide)
  · skip
    refine z_aload_n (q := 1) C 0 rfl rfl dX2_makeOfOne_0 rfl ?_
    refine z_get (q := 4) (v := .int (nI 6)) C hiX2 0 5 rfl rfl (by decide) hf21 rfl dX2_makeOfOne_1 rfl ?_
    refine z_if_ne_n (q := 7) (tgt := 35) C (by omega) dX2_makeOfOne_4 (by decide) rfl (fun c4 => ?_) (fun c4 => ?_)
    · skip
      refine z_aload_n (q := 36) C 0 rfl rfl dX2_makeOfOne_35 rfl ?_
      refine z_get (q := 39) (v := .int (nI 6)) C hiX2 0 5 rfl rfl (by decide) hf21 rfl dX2_makeOfOne_36 rfl ?_
      refine z_iconst (q := 40) C k_iconst_1 dX2_makeOfOne_39 rfl ?_
      refine z_icmp_ne_n (q := 43) (tgt := 53) C (by omega) (by omega) dX2_makeOfOne_40 (by decide) rfl (fun c40 => ?_) (fun c40 => ?_)
      · skip
        refine z_aload_n (q := 54) C 0 rfl rfl dX2_makeOfOne_53 rfl ?_
        refine z_get (q := 57) (v := .int (nI 6)) C hiX2 0 5 rfl rfl (by decide) hf21 rfl dX2_makeOfOne_54 rfl ?_
        refine z_iconst (q := 58) C k_iconst_4 dX2_makeOfOne_57 rfl ?_
        refine z_icmp_ne_n (q := 61) (tgt := 78) C (by omega) (by omega) dX2_makeOfOne_58 (by decide) rfl (fun c58 => ?_) (fun c58 => ?_)
        · skip
          refine z_aload_n (q := 79) C 0 rfl rfl dX2_makeOfOne_78 rfl ?_
          refine z_get (q := 82) (v := .int (nI 6)) C hiX2 0 5 rfl rfl (by decide) hf21 rfl dX2_makeOfOne_79 rfl ?_
          refine z_bipush (q := 84) C k_bipush_6 dX2_makeOfOne_82 rfl ?_
          refine z_icmp_ne_n (q := 87) (tgt := 106) C (by omega) (by omega) dX2_makeOfOne_84 (by decide) rfl (fun c84 => ?_) (fun c84 => ?_)
          · exact absurd c84 (by decide)
          · skip
            refine z_iload_n (q := 88) C 2 rfl rfl dX2_makeOfOne_87 rfl ?_
            refine z_if_ne_z (q := 91) (tgt := 106) C dX2_makeOfOne_88 (by decide) rfl (fun c88 => ?_) (fun c88 => ?_)
            · skip
              refine z_aload_n (q := 107) C 0 rfl rfl dX2_makeOfOne_106 rfl ?_
              refine z_get (q := 110) (v := .int (nI 6)) C hiX2 0 5 rfl rfl (by decide) hf21 rfl dX2_makeOfOne_107 rfl ?_
              refine z_bipush (q := 112) C k_bipush_8 dX2_makeOfOne_110 rfl ?_
              refine z_icmp_ne_n (q := 115) (tgt := 134) C (by omega) (by omega) dX2_makeOfOne_112 (by decide) rfl (fun c112 => ?_) (fun c112 => ?_)
              · skip
                refine z_aload_n (q := 135) C 0 rfl rfl dX2_makeOfOne_134 rfl ?_
                refine z_get (q := 138) (v := .int (nI 6)) C hiX2 0 5 rfl rfl (by decide) hf21 rfl dX2_makeOfOne_135 rfl ?_
                refine z_bipush (q := 140) C k_bipush_10 dX2_makeOfOne_138 rfl ?_
                refine z_icmp_ne_n (q := 143) (tgt := 162) C (by omega) (by omega) dX2_makeOfOne_140 (by decide) rfl (fun c140 => ?_) (fun c140 => ?_)
                · skip
                  refine z_aload_n (q := 163) C 0 rfl rfl dX2_makeOfOne_162 rfl ?_
                  refine z_get (q := 166) (v := .int (nI 6)) C hiX2 0 5 rfl rfl (by decide) hf21 rfl dX2_makeOfOne_163 rfl ?_
                  refine z_bipush (q := 168) C k_bipush_12 dX2_makeOfOne_166 rfl ?_
                  refine z_icmp_ne_n (q := 171) (tgt := 192) C (by omega) (by omega) dX2_makeOfOne_168 (by decide) rfl (fun c168 => ?_) (fun c168 => ?_)
                  · skip
                    refine z_aload_n (q := 193) C 0 rfl rfl dX2_makeOfOne_192 rfl ?_
                    refine z_get (q := 196) (v := .int (nI 6)) C hiX2 0 5 rfl rfl (by decide) hf21 rfl dX2_makeOfOne_193 rfl ?_
                    refine z_bipush (q := 198) C k_bipush_13 dX2_makeOfOne_196 rfl ?_
                    refine z_icmp_ne_n (q := 201) (tgt := 219) C (by omega) (by omega) dX2_makeOfOne_198 (by decide) rfl (fun c198 => ?_) (fun c198 => ?_)
                    · skip
                      refine z_vret C E (by omega) (by omega) dX2_makeOfOne_219 ?_
                      refine ⟨F, n, ov, ?_, rfl, rfl⟩
                      rw [show oneL nl tf 6 s p o = _ from if_neg (fun z => c88 z.1)]
                      exact hR
                    · exact absurd c198 (by decide)
                  · exact absurd c168 (by decide)
                · exact absurd c140 (by decide)
              · exact absurd c112 (by decide)
            · skip
              refine z_iload_n (q := 92) C 3 rfl rfl dX2_makeOfOne_91 rfl ?_
              refine z_iconst (q := 93) C k_iconst_1 dX2_makeOfOne_92 rfl ?_
              refine z_icmp_ne (q := 96) (tgt := 106) C dX2_makeOfOne_93 (by decide) rfl (fun c93 => ?_) (fun c93 => ?_)
              · skip
                refine z_aload_n (q := 107) C 0 rfl rfl dX2_makeOfOne_106 rfl ?_
                refine z_get (q := 110) (v := .int (nI 6)) C hiX2 0 5 rfl rfl (by decide) hf21 rfl dX2_makeOfOne_107 rfl ?_
                refine z_bipush (q := 112) C k_bipush_8 dX2_makeOfOne_110 rfl ?_
                refine z_icmp_ne_n (q := 115) (tgt := 134) C (by omega) (by omega) dX2_makeOfOne_112 (by decide) rfl (fun c112 => ?_) (fun c112 => ?_)
                · skip
                  refine z_aload_n (q := 135) C 0 rfl rfl dX2_makeOfOne_134 rfl ?_
                  refine z_get (q := 138) (v := .int (nI 6)) C hiX2 0 5 rfl rfl (by decide) hf21 rfl dX2_makeOfOne_135 rfl ?_
                  refine z_bipush (q := 140) C k_bipush_10 dX2_makeOfOne_138 rfl ?_
                  refine z_icmp_ne_n (q := 143) (tgt := 162) C (by omega) (by omega) dX2_makeOfOne_140 (by decide) rfl (fun c140 => ?_) (fun c140 => ?_)
                  · skip
                    refine z_aload_n (q := 163) C 0 rfl rfl dX2_makeOfOne_162 rfl ?_
                    refine z_get (q := 166) (v := .int (nI 6)) C hiX2 0 5 rfl rfl (by decide) hf21 rfl dX2_makeOfOne_163 rfl ?_
                    refine z_bipush (q := 168) C k_bipush_12 dX2_makeOfOne_166 rfl ?_
                    refine z_icmp_ne_n (q := 171) (tgt := 192) C (by omega) (by omega) dX2_makeOfOne_168 (by decide) rfl (fun c168 => ?_) (fun c168 => ?_)
                    · skip
                      refine z_aload_n (q := 193) C 0 rfl rfl dX2_makeOfOne_192 rfl ?_
                      refine z_get (q := 196) (v := .int (nI 6)) C hiX2 0 5 rfl rfl (by decide) hf21 rfl dX2_makeOfOne_193 rfl ?_
                      refine z_bipush (q := 198) C k_bipush_13 dX2_makeOfOne_196 rfl ?_
                      refine z_icmp_ne_n (q := 201) (tgt := 219) C (by omega) (by omega) dX2_makeOfOne_198 (by decide) rfl (fun c198 => ?_) (fun c198 => ?_)
                      · skip
                        refine z_vret C E (by omega) (by omega) dX2_makeOfOne_219 ?_
                        refine ⟨F, n, ov, ?_, rfl, rfl⟩
                        rw [show oneL nl tf 6 s p o = _ from if_neg (fun z => c93 z.2)]
                        exact hR
                      · exact absurd c198 (by decide)
                    · exact absurd c168 (by decide)
                  · exact absurd c140 (by decide)
                · exact absurd c112 (by decide)
              · skip
                refine z_aload_n (q := 97) C 0 rfl rfl dX2_makeOfOne_96 rfl ?_
                refine z_iload_n (q := 98) C 1 rfl rfl dX2_makeOfOne_97 rfl ?_
                refine z_iconst (q := 99) C k_iconst_5 dX2_makeOfOne_98 rfl ?_
                refine z_iload_n (q := 100) C 1 rfl rfl dX2_makeOfOne_99 rfl ?_
                refine z_callV (q := 103) (n := 3) (As := [.int s, .int (nI 5), .int s]) (rest := []) (wr := [(ht, .inr (4, [.ref ta, .int (nI nl)])), (ta, .inl (X.cI, 40, .inl tf))]) C (c_X2_make X.l X.D X.2.1 hr ht sp en rd 6 x y h a F n ov am S hR s (nI 5) s) gX2_makeOfOne_X2_make rfl rfl rfl (by decide +kernel) (by decide) ⟨by first | decide | omega, by first | decide | omega⟩ 0 2 rfl rfl [0, 3, 4, 5, 6, 7, 8, 9, 10, 11, 12] [1, 2] rfl rfl (by decide) (by decide) (by decide) rfl rfl (Nat.le_of_ble_eq_true rfl) dX2_makeOfOne_100 rfl (fun v w1 hp => ?_)
                obtain ⟨F1, n1, o1, hR1, rfl, rfl⟩ := hp
                show zW X 4 [(ht, .inr (4, [.ref ta, .int (nI nl)])), (ta, .inl (X.cI, 40, .inl tf)), (hr, .inr (2, [.ref ht, .ref h, .int (nI sp), .int (nI en), .int rd, .int (nI 6), .int x, .int y])), (h, .inr (3, [.ref (a 0), .ref (a 1), .ref (a 2), .ref (a 3), .ref (a 4), .ref (a 5), .ref (a 6), .ref (a 7), .ref (a 8), .int (nI n1), .int (zb o1), .int am])), (a 0, .inl (X.cI, 600, .inl (F1 0))), (a 1, .inl (X.cI, 600, .inl (F1 1))), (a 2, .inl (X.cI, 600, .inl (F1 2))), (a 3, .inl (X.cI, 600, .inl (F1 3))), (a 4, .inl (X.cI, 600, .inl (F1 4))), (a 5, .inl (X.cI, 600, .inl (F1 5))), (a 6, .inl (X.cI, 600, .inl (F1 6))), (a 7, .inl (X.cI, 1024, .inl (F1 7))), (a 8, .inl (X.cZ, 600, .inl (F1 8)))] _ _ 103 _ []
                refine z_goto (tgt := 219) C dX2_makeOfOne_103 (by decide) ?_
                refine z_ws (ws' := [(hr, .inr (2, [.ref ht, .ref h, .int (nI sp), .int (nI en), .int rd, .int (nI 6), .int x, .int y])), (ht, .inr (4, [.ref ta, .int (nI nl)])), (ta, .inl (X.cI, 40, .inl tf)), (h, .inr (3, [.ref (a 0), .ref (a 1), .ref (a 2), .ref (a 3), .ref (a 4), .ref (a 5), .ref (a 6), .ref (a 7), .ref (a 8), .int (nI n1), .int (zb o1), .int am])), (a 0, .inl (X.cI, 600, .inl (F1 0))), (a 1, .inl (X.cI, 600, .inl (F1 1))), (a 2, .inl (X.cI, 600, .inl (F1 2))), (a 3, .inl (X.cI, 600, .inl (F1 3))), (a 4, .inl (X.cI, 600, .inl (F1 4))), (a 5, .inl (X.cI, 600, .inl (F1 5))), (a 6, .inl (X.cI, 600, .inl (F1 6))), (a 7, .inl (X.cI, 1024, .inl (F1 7))), (a 8, .inl (X.cZ, 600, .inl (F1 8)))]) [2, 0, 1, 3, 4, 5, 6, 7, 8, 9, 10, 11, 12] (by decide) rfl ?_
                refine z_vret C E (by omega) (by omega) dX2_makeOfOne_219 ?_
                refine ⟨F1, n1, o1, ?_, rfl, rfl⟩
                rw [show oneL nl tf 6 s p o = _ from if_pos ⟨c88, c93⟩]
                exact hR1
        · exact absurd c58 (by decide)
      · exact absurd c40 (by decide)
    · exact absurd c4 (by decide)
  · skip
    refine z_aload_n (q := 1) C 0 rfl rfl dX2_makeOfOne_0 rfl ?_
    refine z_get (q := 4) (v := .int (nI 8)) C hiX2 0 5 rfl rfl (by decide) hf21 rfl dX2_makeOfOne_1 rfl ?_
    refine z_if_ne_n (q := 7) (tgt := 35) C (by omega) dX2_makeOfOne_4 (by decide) rfl (fun c4 => ?_) (fun c4 => ?_)
    · skip
      refine z_aload_n (q := 36) C 0 rfl rfl dX2_makeOfOne_35 rfl ?_
      refine z_get (q := 39) (v := .int (nI 8)) C hiX2 0 5 rfl rfl (by decide) hf21 rfl dX2_makeOfOne_36 rfl ?_
      refine z_iconst (q := 40) C k_iconst_1 dX2_makeOfOne_39 rfl ?_
      refine z_icmp_ne_n (q := 43) (tgt := 53) C (by omega) (by omega) dX2_makeOfOne_40 (by decide) rfl (fun c40 => ?_) (fun c40 => ?_)
      · skip
        refine z_aload_n (q := 54) C 0 rfl rfl dX2_makeOfOne_53 rfl ?_
        refine z_get (q := 57) (v := .int (nI 8)) C hiX2 0 5 rfl rfl (by decide) hf21 rfl dX2_makeOfOne_54 rfl ?_
        refine z_iconst (q := 58) C k_iconst_4 dX2_makeOfOne_57 rfl ?_
        refine z_icmp_ne_n (q := 61) (tgt := 78) C (by omega) (by omega) dX2_makeOfOne_58 (by decide) rfl (fun c58 => ?_) (fun c58 => ?_)
        · skip
          refine z_aload_n (q := 79) C 0 rfl rfl dX2_makeOfOne_78 rfl ?_
          refine z_get (q := 82) (v := .int (nI 8)) C hiX2 0 5 rfl rfl (by decide) hf21 rfl dX2_makeOfOne_79 rfl ?_
          refine z_bipush (q := 84) C k_bipush_6 dX2_makeOfOne_82 rfl ?_
          refine z_icmp_ne_n (q := 87) (tgt := 106) C (by omega) (by omega) dX2_makeOfOne_84 (by decide) rfl (fun c84 => ?_) (fun c84 => ?_)
          · skip
            refine z_aload_n (q := 107) C 0 rfl rfl dX2_makeOfOne_106 rfl ?_
            refine z_get (q := 110) (v := .int (nI 8)) C hiX2 0 5 rfl rfl (by decide) hf21 rfl dX2_makeOfOne_107 rfl ?_
            refine z_bipush (q := 112) C k_bipush_8 dX2_makeOfOne_110 rfl ?_
            refine z_icmp_ne_n (q := 115) (tgt := 134) C (by omega) (by omega) dX2_makeOfOne_112 (by decide) rfl (fun c112 => ?_) (fun c112 => ?_)
            · exact absurd c112 (by decide)
            · skip
              refine z_iload_n (q := 116) C 2 rfl rfl dX2_makeOfOne_115 rfl ?_
              refine z_if_ne_z (q := 119) (tgt := 134) C dX2_makeOfOne_116 (by decide) rfl (fun c116 => ?_) (fun c116 => ?_)
              · skip
                refine z_aload_n (q := 135) C 0 rfl rfl dX2_makeOfOne_134 rfl ?_
                refine z_get (q := 138) (v := .int (nI 8)) C hiX2 0 5 rfl rfl (by decide) hf21 rfl dX2_makeOfOne_135 rfl ?_
                refine z_bipush (q := 140) C k_bipush_10 dX2_makeOfOne_138 rfl ?_
                refine z_icmp_ne_n (q := 143) (tgt := 162) C (by omega) (by omega) dX2_makeOfOne_140 (by decide) rfl (fun c140 => ?_) (fun c140 => ?_)
                · skip
                  refine z_aload_n (q := 163) C 0 rfl rfl dX2_makeOfOne_162 rfl ?_
                  refine z_get (q := 166) (v := .int (nI 8)) C hiX2 0 5 rfl rfl (by decide) hf21 rfl dX2_makeOfOne_163 rfl ?_
                  refine z_bipush (q := 168) C k_bipush_12 dX2_makeOfOne_166 rfl ?_
                  refine z_icmp_ne_n (q := 171) (tgt := 192) C (by omega) (by omega) dX2_makeOfOne_168 (by decide) rfl (fun c168 => ?_) (fun c168 => ?_)
                  · skip
                    refine z_aload_n (q := 193) C 0 rfl rfl dX2_makeOfOne_192 rfl ?_
                    refine z_get (q := 196) (v := .int (nI 8)) C hiX2 0 5 rfl rfl (by decide) hf21 rfl dX2_makeOfOne_193 rfl ?_
                    refine z_bipush (q := 198) C k_bipush_13 dX2_makeOfOne_196 rfl ?_
                    refine z_icmp_ne_n (q := 201) (tgt := 219) C (by omega) (by omega) dX2_makeOfOne_198 (by decide) rfl (fun c198 => ?_) (fun c198 => ?_)
                    · skip
                      refine z_vret C E (by omega) (by omega) dX2_makeOfOne_219 ?_
                      refine ⟨F, n, ov, ?_, rfl, rfl⟩
                      rw [show oneL nl tf 8 s p o = _ from if_neg (fun z => c116 z.1)]
                      exact hR
                    · exact absurd c198 (by decide)
                  · exact absurd c168 (by decide)
                · exact absurd c140 (by decide)
              · skip
                refine z_iload_n (q := 120) C 3 rfl rfl dX2_makeOfOne_119 rfl ?_
                refine z_iconst (q := 121) C k_iconst_3 dX2_makeOfOne_120 rfl ?_
                refine z_icmp_ne (q := 124) (tgt := 134) C dX2_makeOfOne_121 (by decide) rfl (fun c121 => ?_) (fun c121 => ?_)
                · skip
                  refine z_aload_n (q := 135) C 0 rfl rfl dX2_makeOfOne_134 rfl ?_
                  refine z_get (q := 138) (v := .int (nI 8)) C hiX2 0 5 rfl rfl (by decide) hf21 rfl dX2_makeOfOne_135 rfl ?_
                  refine z_bipush (q := 140) C k_bipush_10 dX2_makeOfOne_138 rfl ?_
                  refine z_icmp_ne_n (q := 143) (tgt := 162) C (by omega) (by omega) dX2_makeOfOne_140 (by decide) rfl (fun c140 => ?_) (fun c140 => ?_)
                  · skip
                    refine z_aload_n (q := 163) C 0 rfl rfl dX2_makeOfOne_162 rfl ?_
                    refine z_get (q := 166) (v := .int (nI 8)) C hiX2 0 5 rfl rfl (by decide) hf21 rfl dX2_makeOfOne_163 rfl ?_
                    refine z_bipush (q := 168) C k_bipush_12 dX2_makeOfOne_166 rfl ?_
                    refine z_icmp_ne_n (q := 171) (tgt := 192) C (by omega) (by omega) dX2_makeOfOne_168 (by decide) rfl (fun c168 => ?_) (fun c168 => ?_)
                    · skip
                      refine z_aload_n (q := 193) C 0 rfl rfl dX2_makeOfOne_192 rfl ?_
                      refine z_get (q := 196) (v := .int (nI 8)) C hiX2 0 5 rfl rfl (by decide) hf21 rfl dX2_makeOfOne_193 rfl ?_
                      refine z_bipush (q := 198) C k_bipush_13 dX2_makeOfOne_196 rfl ?_
                      refine z_icmp_ne_n (q := 201) (tgt := 219) C (by omega) (by omega) dX2_makeOfOne_198 (by decide) rfl (fun c198 => ?_) (fun c198 => ?_)
                      · skip
                        refine z_vret C E (by omega) (by omega) dX2_makeOfOne_219 ?_
                        refine ⟨F, n, ov, ?_, rfl, rfl⟩
                        rw [show oneL nl tf 8 s p o = _ from if_neg (fun z => c121 z.2)]
                        exact hR
                      · exact absurd c198 (by decide)
                    · exact absurd c168 (by decide)
                  · exact absurd c140 (by decide)
                · skip
                  refine z_aload_n (q := 125) C 0 rfl rfl dX2_makeOfOne_124 rfl ?_
                  refine z_iload_n (q := 126) C 1 rfl rfl dX2_makeOfOne_125 rfl ?_
                  refine z_iconst (q := 127) C k_iconst_4 dX2_makeOfOne_126 rfl ?_
                  refine z_iconst (q := 128) C k_iconst_2 dX2_makeOfOne_127 rfl ?_
                  refine z_callV (q := 131) (n := 3) (As := [.int s, .int (nI 4), .int (nI 2)]) (rest := []) (wr := [(ht, .inr (4, [.ref ta, .int (nI nl)])), (ta, .inl (X.cI, 40, .inl tf))]) C (c_X2_make X.l X.D X.2.1 hr ht sp en rd 8 x y h a F n ov am S hR s (nI 4) (nI 2)) gX2_makeOfOne_X2_make rfl rfl rfl (by decide +kernel) (by decide) ⟨by first | decide | omega, by first | decide | omega⟩ 0 2 rfl rfl [0, 3, 4, 5, 6, 7, 8, 9, 10, 11, 12] [1, 2] rfl rfl (by decide) (by decide) (by decide) rfl rfl (Nat.le_of_ble_eq_true rfl) dX2_makeOfOne_128 rfl (fun v w1 hp => ?_)
                  obtain ⟨F1, n1, o1, hR1, rfl, rfl⟩ := hp
                  show zW X 4 [(ht, .inr (4, [.ref ta, .int (nI nl)])), (ta, .inl (X.cI, 40, .inl tf)), (hr, .inr (2, [.ref ht, .ref h, .int (nI sp), .int (nI en), .int rd, .int (nI 8), .int x, .int y])), (h, .inr (3, [.ref (a 0), .ref (a 1), .ref (a 2), .ref (a 3), .ref (a 4), .ref (a 5), .ref (a 6), .ref (a 7), .ref (a 8), .int (nI n1), .int (zb o1), .int am])), (a 0, .inl (X.cI, 600, .inl (F1 0))), (a 1, .inl (X.cI, 600, .inl (F1 1))), (a 2, .inl (X.cI, 600, .inl (F1 2))), (a 3, .inl (X.cI, 600, .inl (F1 3))), (a 4, .inl (X.cI, 600, .inl (F1 4))), (a 5, .inl (X.cI, 600, .inl (F1 5))), (a 6, .inl (X.cI, 600, .inl (F1 6))), (a 7, .inl (X.cI, 1024, .inl (F1 7))), (a 8, .inl (X.cZ, 600, .inl (F1 8)))] _ _ 131 _ []
                  refine z_goto (tgt := 219) C dX2_makeOfOne_131 (by decide) ?_
                  refine z_ws (ws' := [(hr, .inr (2, [.ref ht, .ref h, .int (nI sp), .int (nI en), .int rd, .int (nI 8), .int x, .int y])), (ht, .inr (4, [.ref ta, .int (nI nl)])), (ta, .inl (X.cI, 40, .inl tf)), (h, .inr (3, [.ref (a 0), .ref (a 1), .ref (a 2), .ref (a 3), .ref (a 4), .ref (a 5), .ref (a 6), .ref (a 7), .ref (a 8), .int (nI n1), .int (zb o1), .int am])), (a 0, .inl (X.cI, 600, .inl (F1 0))), (a 1, .inl (X.cI, 600, .inl (F1 1))), (a 2, .inl (X.cI, 600, .inl (F1 2))), (a 3, .inl (X.cI, 600, .inl (F1 3))), (a 4, .inl (X.cI, 600, .inl (F1 4))), (a 5, .inl (X.cI, 600, .inl (F1 5))), (a 6, .inl (X.cI, 600, .inl (F1 6))), (a 7, .inl (X.cI, 1024, .inl (F1 7))), (a 8, .inl (X.cZ, 600, .inl (F1 8)))]) [2, 0, 1, 3, 4, 5, 6, 7, 8, 9, 10, 11, 12] (by decide) rfl ?_
                  refine z_vret C E (by omega) (by omega) dX2_makeOfOne_219 ?_
                  refine ⟨F1, n1, o1, ?_, rfl, rfl⟩
                  rw [show oneL nl tf 8 s p o = _ from if_pos ⟨c116, c121⟩]
                  exact hR1
          · exact absurd c84 (by decide)
        · exact absurd c58 (by decide)
      · exact absurd c40 (by decide)
    · exact absurd c4 (by decide)
  · skip
    refine z_aload_n (q := 1) C 0 rfl rfl dX2_makeOfOne_0 rfl ?_
    refine z_get (q := 4) (v := .int (nI 10)) C hiX2 0 5 rfl rfl (by decide) hf21 rfl dX2_makeOfOne_1 rfl ?_
    refine z_if_ne_n (q := 7) (tgt := 35) C (by omega) dX2_makeOfOne_4 (by decide) rfl (fun c4 => ?_) (fun c4 => ?_)
    · skip
      refine z_aload_n (q := 36) C 0 rfl rfl dX2_makeOfOne_35 rfl ?_
      refine z_get (q := 39) (v := .int (nI 10)) C hiX2 0 5 rfl rfl (by decide) hf21 rfl dX2_makeOfOne_36 rfl ?_
      refine z_iconst (q := 40) C k_iconst_1 dX2_makeOfOne_39 rfl ?_
      refine z_icmp_ne_n (q := 43) (tgt := 53) C (by omega) (by omega) dX2_makeOfOne_40 (by decide) rfl (fun c40 => ?_) (fun c40 => ?_)
      · skip
        refine z_aload_n (q := 54) C 0 rfl rfl dX2_makeOfOne_53 rfl ?_
        refine z_get (q := 57) (v := .int (nI 10)) C hiX2 0 5 rfl rfl (by decide) hf21 rfl dX2_makeOfOne_54 rfl ?_
        refine z_iconst (q := 58) C k_iconst_4 dX2_makeOfOne_57 rfl ?_
        refine z_icmp_ne_n (q := 61) (tgt := 78) C (by omega) (by omega) dX2_makeOfOne_58 (by decide) rfl (fun c58 => ?_) (fun c58 => ?_)
        · skip
          refine z_aload_n (q := 79) C 0 rfl rfl dX2_makeOfOne_78 rfl ?_
          refine z_get (q := 82) (v := .int (nI 10)) C hiX2 0 5 rfl rfl (by decide) hf21 rfl dX2_makeOfOne_79 rfl ?_
          refine z_bipush (q := 84) C k_bipush_6 dX2_makeOfOne_82 rfl ?_
          refine z_icmp_ne_n (q := 87) (tgt := 106) C (by omega) (by omega) dX2_makeOfOne_84 (by decide) rfl (fun c84 => ?_) (fun c84 => ?_)
          · skip
            refine z_aload_n (q := 107) C 0 rfl rfl dX2_makeOfOne_106 rfl ?_
            refine z_get (q := 110) (v := .int (nI 10)) C hiX2 0 5 rfl rfl (by decide) hf21 rfl dX2_makeOfOne_107 rfl ?_
            refine z_bipush (q := 112) C k_bipush_8 dX2_makeOfOne_110 rfl ?_
            refine z_icmp_ne_n (q := 115) (tgt := 134) C (by omega) (by omega) dX2_makeOfOne_112 (by decide) rfl (fun c112 => ?_) (fun c112 => ?_)
            · skip
              refine z_aload_n (q := 135) C 0 rfl rfl dX2_makeOfOne_134 rfl ?_
              refine z_get (q := 138) (v := .int (nI 10)) C hiX2 0 5 rfl rfl (by decide) hf21 rfl dX2_makeOfOne_135 rfl ?_
              refine z_bipush (q := 140) C k_bipush_10 dX2_makeOfOne_138 rfl ?_
              refine z_icmp_ne_n (q := 143) (tgt := 162) C (by omega) (by omega) dX2_makeOfOne_140 (by decide) rfl (fun c140 => ?_) (fun c140 => ?_)
              · exact absurd c140 (by decide)
              · skip
                refine z_iload_n (q := 144) C 2 rfl rfl dX2_makeOfOne_143 rfl ?_
                refine z_if_ne_z (q := 147) (tgt := 162) C dX2_makeOfOne_144 (by decide) rfl (fun c144 => ?_) (fun c144 => ?_)
                · skip
                  refine z_aload_n (q := 163) C 0 rfl rfl dX2_makeOfOne_162 rfl ?_
                  refine z_get (q := 166) (v := .int (nI 10)) C hiX2 0 5 rfl rfl (by decide) hf21 rfl dX2_makeOfOne_163 rfl ?_
                  refine z_bipush (q := 168) C k_bipush_12 dX2_makeOfOne_166 rfl ?_
                  refine z_icmp_ne_n (q := 171) (tgt := 192) C (by omega) (by omega) dX2_makeOfOne_168 (by decide) rfl (fun c168 => ?_) (fun c168 => ?_)
                  · skip
                    refine z_aload_n (q := 193) C 0 rfl rfl dX2_makeOfOne_192 rfl ?_
                    refine z_get (q := 196) (v := .int (nI 10)) C hiX2 0 5 rfl rfl (by decide) hf21 rfl dX2_makeOfOne_193 rfl ?_
                    refine z_bipush (q := 198) C k_bipush_13 dX2_makeOfOne_196 rfl ?_
                    refine z_icmp_ne_n (q := 201) (tgt := 219) C (by omega) (by omega) dX2_makeOfOne_198 (by decide) rfl (fun c198 => ?_) (fun c198 => ?_)
                    · skip
                      refine z_vret C E (by omega) (by omega) dX2_makeOfOne_219 ?_
                      refine ⟨F, n, ov, ?_, rfl, rfl⟩
                      rw [show oneL nl tf 10 s p o = _ from if_neg (fun z => c144 z.1)]
                      exact hR
                    · exact absurd c198 (by decide)
                  · exact absurd c168 (by decide)
                · skip
                  refine z_iload_n (q := 148) C 3 rfl rfl dX2_makeOfOne_147 rfl ?_
                  refine z_iconst (q := 149) C k_iconst_3 dX2_makeOfOne_148 rfl ?_
                  refine z_icmp_ne (q := 152) (tgt := 162) C dX2_makeOfOne_149 (by decide) rfl (fun c149 => ?_) (fun c149 => ?_)
                  · skip
                    refine z_aload_n (q := 163) C 0 rfl rfl dX2_makeOfOne_162 rfl ?_
                    refine z_get (q := 166) (v := .int (nI 10)) C hiX2 0 5 rfl rfl (by decide) hf21 rfl dX2_makeOfOne_163 rfl ?_
                    refine z_bipush (q := 168) C k_bipush_12 dX2_makeOfOne_166 rfl ?_
                    refine z_icmp_ne_n (q := 171) (tgt := 192) C (by omega) (by omega) dX2_makeOfOne_168 (by decide) rfl (fun c168 => ?_) (fun c168 => ?_)
                    · skip
                      refine z_aload_n (q := 193) C 0 rfl rfl dX2_makeOfOne_192 rfl ?_
                      refine z_get (q := 196) (v := .int (nI 10)) C hiX2 0 5 rfl rfl (by decide) hf21 rfl dX2_makeOfOne_193 rfl ?_
                      refine z_bipush (q := 198) C k_bipush_13 dX2_makeOfOne_196 rfl ?_
                      refine z_icmp_ne_n (q := 201) (tgt := 219) C (by omega) (by omega) dX2_makeOfOne_198 (by decide) rfl (fun c198 => ?_) (fun c198 => ?_)
                      · skip
                        refine z_vret C E (by omega) (by omega) dX2_makeOfOne_219 ?_
                        refine ⟨F, n, ov, ?_, rfl, rfl⟩
                        rw [show oneL nl tf 10 s p o = _ from if_neg (fun z => c149 z.2)]
                        exact hR
                      · exact absurd c198 (by decide)
                    · exact absurd c168 (by decide)
                  · skip
                    refine z_aload_n (q := 153) C 0 rfl rfl dX2_makeOfOne_152 rfl ?_
                    refine z_iload_n (q := 154) C 1 rfl rfl dX2_makeOfOne_153 rfl ?_
                    refine z_iconst (q := 155) C k_iconst_4 dX2_makeOfOne_154 rfl ?_
                    refine z_iload_n (q := 156) C 1 rfl rfl dX2_makeOfOne_155 rfl ?_
                    refine z_callV (q := 159) (n := 3) (As := [.int s, .int (nI 4), .int s]) (rest := []) (wr := [(ht, .inr (4, [.ref ta, .int (nI nl)])), (ta, .inl (X.cI, 40, .inl tf))]) C (c_X2_make X.l X.D X.2.1 hr ht sp en rd 10 x y h a F n ov am S hR s (nI 4) s) gX2_makeOfOne_X2_make rfl rfl rfl (by decide +kernel) (by decide) ⟨by first | decide | omega, by first | decide | omega⟩ 0 2 rfl rfl [0, 3, 4, 5, 6, 7, 8, 9, 10, 11, 12] [1, 2] rfl rfl (by decide) (by decide) (by decide) rfl rfl (Nat.le_of_ble_eq_true rfl) dX2_makeOfOne_156 rfl (fun v w1 hp => ?_)
                    obtain ⟨F1, n1, o1, hR1, rfl, rfl⟩ := hp
                    show zW X 4 [(ht, .inr (4, [.ref ta, .int (nI nl)])), (ta, .inl (X.cI, 40, .inl tf)), (hr, .inr (2, [.ref ht, .ref h, .int (nI sp), .int (nI en), .int rd, .int (nI 10), .int x, .int y])), (h, .inr (3, [.ref (a 0), .ref (a 1), .ref (a 2), .ref (a 3), .ref (a 4), .ref (a 5), .ref (a 6), .ref (a 7), .ref (a 8), .int (nI n1), .int (zb o1), .int am])), (a 0, .inl (X.cI, 600, .inl (F1 0))), (a 1, .inl (X.cI, 600, .inl (F1 1))), (a 2, .inl (X.cI, 600, .inl (F1 2))), (a 3, .inl (X.cI, 600, .inl (F1 3))), (a 4, .inl (X.cI, 600, .inl (F1 4))), (a 5, .inl (X.cI, 600, .inl (F1 5))), (a 6, .inl (X.cI, 600, .inl (F1 6))), (a 7, .inl (X.cI, 1024, .inl (F1 7))), (a 8, .inl (X.cZ, 600, .inl (F1 8)))] _ _ 159 _ []
                    refine z_goto (tgt := 219) C dX2_makeOfOne_159 (by decide) ?_
                    refine z_ws (ws' := [(hr, .inr (2, [.ref ht, .ref h, .int (nI sp), .int (nI en), .int rd, .int (nI 10), .int x, .int y])), (ht, .inr (4, [.ref ta, .int (nI nl)])), (ta, .inl (X.cI, 40, .inl tf)), (h, .inr (3, [.ref (a 0), .ref (a 1), .ref (a 2), .ref (a 3), .ref (a 4), .ref (a 5), .ref (a 6), .ref (a 7), .ref (a 8), .int (nI n1), .int (zb o1), .int am])), (a 0, .inl (X.cI, 600, .inl (F1 0))), (a 1, .inl (X.cI, 600, .inl (F1 1))), (a 2, .inl (X.cI, 600, .inl (F1 2))), (a 3, .inl (X.cI, 600, .inl (F1 3))), (a 4, .inl (X.cI, 600, .inl (F1 4))), (a 5, .inl (X.cI, 600, .inl (F1 5))), (a 6, .inl (X.cI, 600, .inl (F1 6))), (a 7, .inl (X.cI, 1024, .inl (F1 7))), (a 8, .inl (X.cZ, 600, .inl (F1 8)))]) [2, 0, 1, 3, 4, 5, 6, 7, 8, 9, 10, 11, 12] (by decide) rfl ?_
                    refine z_vret C E (by omega) (by omega) dX2_makeOfOne_219 ?_
                    refine ⟨F1, n1, o1, ?_, rfl, rfl⟩
                    rw [show oneL nl tf 10 s p o = _ from if_pos ⟨c144, c149⟩]
                    exact hR1
            · exact absurd c112 (by decide)
          · exact absurd c84 (by decide)
        · exact absurd c58 (by decide)
      · exact absurd c40 (by decide)
    · exact absurd c4 (by decide)
  · skip
    refine z_aload_n (q := 1) C 0 rfl rfl dX2_makeOfOne_0 rfl ?_
    refine z_get (q := 4) (v := .int (nI 12)) C hiX2 0 5 rfl rfl (by decide) hf21 rfl dX2_makeOfOne_1 rfl ?_
    refine z_if_ne_n (q := 7) (tgt := 35) C (by omega) dX2_makeOfOne_4 (by decide) rfl (fun c4 => ?_) (fun c4 => ?_)
    · skip
      refine z_aload_n (q := 36) C 0 rfl rfl dX2_makeOfOne_35 rfl ?_
      refine z_get (q := 39) (v := .int (nI 12)) C hiX2 0 5 rfl rfl (by decide) hf21 rfl dX2_makeOfOne_36 rfl ?_
      refine z_iconst (q := 40) C k_iconst_1 dX2_makeOfOne_39 rfl ?_
      refine z_icmp_ne_n (q := 43) (tgt := 53) C (by omega) (by omega) dX2_makeOfOne_40 (by decide) rfl (fun c40 => ?_) (fun c40 => ?_)
      · skip
        refine z_aload_n (q := 54) C 0 rfl rfl dX2_makeOfOne_53 rfl ?_
        refine z_get (q := 57) (v := .int (nI 12)) C hiX2 0 5 rfl rfl (by decide) hf21 rfl dX2_makeOfOne_54 rfl ?_
        refine z_iconst (q := 58) C k_iconst_4 dX2_makeOfOne_57 rfl ?_
        refine z_icmp_ne_n (q := 61) (tgt := 78) C (by omega) (by omega) dX2_makeOfOne_58 (by decide) rfl (fun c58 => ?_) (fun c58 => ?_)
        · skip
          refine z_aload_n (q := 79) C 0 rfl rfl dX2_makeOfOne_78 rfl ?_
          refine z_get (q := 82) (v := .int (nI 12)) C hiX2 0 5 rfl rfl (by decide) hf21 rfl dX2_makeOfOne_79 rfl ?_
          refine z_bipush (q := 84) C k_bipush_6 dX2_makeOfOne_82 rfl ?_
          refine z_icmp_ne_n (q := 87) (tgt := 106) C (by omega) (by omega) dX2_makeOfOne_84 (by decide) rfl (fun c84 => ?_) (fun c84 => ?_)
          · skip
            refine z_aload_n (q := 107) C 0 rfl rfl dX2_makeOfOne_106 rfl ?_
            refine z_get (q := 110) (v := .int (nI 12)) C hiX2 0 5 rfl rfl (by decide) hf21 rfl dX2_makeOfOne_107 rfl ?_
            refine z_bipush (q := 112) C k_bipush_8 dX2_makeOfOne_110 rfl ?_
            refine z_icmp_ne_n (q := 115) (tgt := 134) C (by omega) (by omega) dX2_makeOfOne_112 (by decide) rfl (fun c112 => ?_) (fun c112 => ?_)
            · skip
              refine z_aload_n (q := 135) C 0 rfl rfl dX2_makeOfOne_134 rfl ?_
              refine z_get (q := 138) (v := .int (nI 12)) C hiX2 0 5 rfl rfl (by decide) hf21 rfl dX2_makeOfOne_135 rfl ?_
              refine z_bipush (q := 140) C k_bipush_10 dX2_makeOfOne_138 rfl ?_
              refine z_icmp_ne_n (q := 143) (tgt := 162) C (by omega) (by omega) dX2_makeOfOne_140 (by decide) rfl (fun c140 => ?_) (fun c140 => ?_)
              · skip
                refine z_aload_n (q := 163) C 0 rfl rfl dX2_makeOfOne_162 rfl ?_
                refine z_get (q := 166) (v := .int (nI 12)) C hiX2 0 5 rfl rfl (by decide) hf21 rfl dX2_makeOfOne_163 rfl ?_
                refine z_bipush (q := 168) C k_bipush_12 dX2_makeOfOne_166 rfl ?_
                refine z_icmp_ne_n (q := 171) (tgt := 192) C (by omega) (by omega) dX2_makeOfOne_168 (by decide) rfl (fun c168 => ?_) (fun c168 => ?_)
                · exact absurd c168 (by decide)
                · skip
                  refine z_iload_n (q := 172) C 2 rfl rfl dX2_makeOfOne_171 rfl ?_
                  refine z_if_ne_z (q := 175) (tgt := 192) C dX2_makeOfOne_172 (by decide) rfl (fun c172 => ?_) (fun c172 => ?_)
                  · skip
                    refine z_aload_n (q := 193) C 0 rfl rfl dX2_makeOfOne_192 rfl ?_
                    refine z_get (q := 196) (v := .int (nI 12)) C hiX2 0 5 rfl rfl (by decide) hf21 rfl dX2_makeOfOne_193 rfl ?_
                    refine z_bipush (q := 198) C k_bipush_13 dX2_makeOfOne_196 rfl ?_
                    refine z_icmp_ne_n (q := 201) (tgt := 219) C (by omega) (by omega) dX2_makeOfOne_198 (by decide) rfl (fun c198 => ?_) (fun c198 => ?_)
                    · skip
                      refine z_vret C E (by omega) (by omega) dX2_makeOfOne_219 ?_
                      refine ⟨F, n, ov, ?_, rfl, rfl⟩
                      rw [show oneL nl tf 12 s p o = _ from if_neg (fun z => c172 z.1)]
                      exact hR
                    · exact absurd c198 (by decide)
                  · skip
                    refine z_iload_n (q := 176) C 3 rfl rfl dX2_makeOfOne_175 rfl ?_
                    refine z_bipush (q := 178) C k_bipush_11 dX2_makeOfOne_176 rfl ?_
                    refine z_icmp_ne (q := 181) (tgt := 192) C dX2_makeOfOne_178 (by decide) rfl (fun c178 => ?_) (fun c178 => ?_)
                    · skip
                      refine z_aload_n (q := 193) C 0 rfl rfl dX2_makeOfOne_192 rfl ?_
                      refine z_get (q := 196) (v := .int (nI 12)) C hiX2 0 5 rfl rfl (by decide) hf21 rfl dX2_makeOfOne_193 rfl ?_
                      refine z_bipush (q := 198) C k_bipush_13 dX2_makeOfOne_196 rfl ?_
                      refine z_icmp_ne_n (q := 201) (tgt := 219) C (by omega) (by omega) dX2_makeOfOne_198 (by decide) rfl (fun c198 => ?_) (fun c198 => ?_)
                      · skip
                        refine z_vret C E (by omega) (by omega) dX2_makeOfOne_219 ?_
                        refine ⟨F, n, ov, ?_, rfl, rfl⟩
                        rw [show oneL nl tf 12 s p o = _ from if_neg (fun z => c178 z.2)]
                        exact hR
                      · exact absurd c198 (by decide)
                    · skip
                      refine z_aload_n (q := 182) C 0 rfl rfl dX2_makeOfOne_181 rfl ?_
                      refine z_iload_n (q := 183) C 1 rfl rfl dX2_makeOfOne_182 rfl ?_
                      refine z_iconst (q := 184) C k_iconst_5 dX2_makeOfOne_183 rfl ?_
                      refine z_bipush (q := 186) C k_bipush_10 dX2_makeOfOne_184 rfl ?_
                      refine z_callV (q := 189) (n := 3) (As := [.int s, .int (nI 5), .int (nI 10)]) (rest := []) (wr := [(ht, .inr (4, [.ref ta, .int (nI nl)])), (ta, .inl (X.cI, 40, .inl tf))]) C (c_X2_make X.l X.D X.2.1 hr ht sp en rd 12 x y h a F n ov am S hR s (nI 5) (nI 10)) gX2_makeOfOne_X2_make rfl rfl rfl (by decide +kernel) (by decide) ⟨by first | decide | omega, by first | decide | omega⟩ 0 2 rfl rfl [0, 3, 4, 5, 6, 7, 8, 9, 10, 11, 12] [1, 2] rfl rfl (by decide) (by decide) (by decide) rfl rfl (Nat.le_of_ble_eq_true rfl) dX2_makeOfOne_186 rfl (fun v w1 hp => ?_)
                      obtain ⟨F1, n1, o1, hR1, rfl, rfl⟩ := hp
                      show zW X 4 [(ht, .inr (4, [.ref ta, .int (nI nl)])), (ta, .inl (X.cI, 40, .inl tf)), (hr, .inr (2, [.ref ht, .ref h, .int (nI sp), .int (nI en), .int rd, .int (nI 12), .int x, .int y])), (h, .inr (3, [.ref (a 0), .ref (a 1), .ref (a 2), .ref (a 3), .ref (a 4), .ref (a 5), .ref (a 6), .ref (a 7), .ref (a 8), .int (nI n1), .int (zb o1), .int am])), (a 0, .inl (X.cI, 600, .inl (F1 0))), (a 1, .inl (X.cI, 600, .inl (F1 1))), (a 2, .inl (X.cI, 600, .inl (F1 2))), (a 3, .inl (X.cI, 600, .inl (F1 3))), (a 4, .inl (X.cI, 600, .inl (F1 4))), (a 5, .inl (X.cI, 600, .inl (F1 5))), (a 6, .inl (X.cI, 600, .inl (F1 6))), (a 7, .inl (X.cI, 1024, .inl (F1 7))), (a 8, .inl (X.cZ, 600, .inl (F1 8)))] _ _ 189 _ []
                      refine z_goto (tgt := 219) C dX2_makeOfOne_189 (by decide) ?_
                      refine z_ws (ws' := [(hr, .inr (2, [.ref ht, .ref h, .int (nI sp), .int (nI en), .int rd, .int (nI 12), .int x, .int y])), (ht, .inr (4, [.ref ta, .int (nI nl)])), (ta, .inl (X.cI, 40, .inl tf)), (h, .inr (3, [.ref (a 0), .ref (a 1), .ref (a 2), .ref (a 3), .ref (a 4), .ref (a 5), .ref (a 6), .ref (a 7), .ref (a 8), .int (nI n1), .int (zb o1), .int am])), (a 0, .inl (X.cI, 600, .inl (F1 0))), (a 1, .inl (X.cI, 600, .inl (F1 1))), (a 2, .inl (X.cI, 600, .inl (F1 2))), (a 3, .inl (X.cI, 600, .inl (F1 3))), (a 4, .inl (X.cI, 600, .inl (F1 4))), (a 5, .inl (X.cI, 600, .inl (F1 5))), (a 6, .inl (X.cI, 600, .inl (F1 6))), (a 7, .inl (X.cI, 1024, .inl (F1 7))), (a 8, .inl (X.cZ, 600, .inl (F1 8)))]) [2, 0, 1, 3, 4, 5, 6, 7, 8, 9, 10, 11, 12] (by decide) rfl ?_
                      refine z_vret C E (by omega) (by omega) dX2_makeOfOne_219 ?_
                      refine ⟨F1, n1, o1, ?_, rfl, rfl⟩
                      rw [show oneL nl tf 12 s p o = _ from if_pos ⟨c172, c178⟩]
                      exact hR1
              · exact absurd c140 (by decide)
            · exact absurd c112 (by decide)
          · exact absurd c84 (by decide)
        · exact absurd c58 (by decide)
      · exact absurd c40 (by decide)
    · exact absurd c4 (by decide)
  · skip
    refine z_aload_n (q := 1) C 0 rfl rfl dX2_makeOfOne_0 rfl ?_
    refine z_get (q := 4) (v := .int (nI 13)) C hiX2 0 5 rfl rfl (by decide) hf21 rfl dX2_makeOfOne_1 rfl ?_
    refine z_if_ne_n (q := 7) (tgt := 35) C (by omega) dX2_makeOfOne_4 (by decide) rfl (fun c4 => ?_) (fun c4 => ?_)
    · skip
      refine z_aload_n (q := 36) C 0 rfl rfl dX2_makeOfOne_35 rfl ?_
      refine z_get (q := 39) (v := .int (nI 13)) C hiX2 0 5 rfl rfl (by decide) hf21 rfl dX2_makeOfOne_36 rfl ?_
      refine z_iconst (q := 40) C k_iconst_1 dX2_makeOfOne_39 rfl ?_
      refine z_icmp_ne_n (q := 43) (tgt := 53) C (by omega) (by omega) dX2_makeOfOne_40 (by decide) rfl (fun c40 => ?_) (fun c40 => ?_)
      · skip
        refine z_aload_n (q := 54) C 0 rfl rfl dX2_makeOfOne_53 rfl ?_
        refine z_get (q := 57) (v := .int (nI 13)) C hiX2 0 5 rfl rfl (by decide) hf21 rfl dX2_makeOfOne_54 rfl ?_
        refine z_iconst (q := 58) C k_iconst_4 dX2_makeOfOne_57 rfl ?_
        refine z_icmp_ne_n (q := 61) (tgt := 78) C (by omega) (by omega) dX2_makeOfOne_58 (by decide) rfl (fun c58 => ?_) (fun c58 => ?_)
        · skip
          refine z_aload_n (q := 79) C 0 rfl rfl dX2_makeOfOne_78 rfl ?_
          refine z_get (q := 82) (v := .int (nI 13)) C hiX2 0 5 rfl rfl (by decide) hf21 rfl dX2_makeOfOne_79 rfl ?_
          refine z_bipush (q := 84) C k_bipush_6 dX2_makeOfOne_82 rfl ?_
          refine z_icmp_ne_n (q := 87) (tgt := 106) C (by omega) (by omega) dX2_makeOfOne_84 (by decide) rfl (fun c84 => ?_) (fun c84 => ?_)
          · skip
            refine z_aload_n (q := 107) C 0 rfl rfl dX2_makeOfOne_106 rfl ?_
            refine z_get (q := 110) (v := .int (nI 13)) C hiX2 0 5 rfl rfl (by decide) hf21 rfl dX2_makeOfOne_107 rfl ?_
            refine z_bipush (q := 112) C k_bipush_8 dX2_makeOfOne_110 rfl ?_
            refine z_icmp_ne_n (q := 115) (tgt := 134) C (by omega) (by omega) dX2_makeOfOne_112 (by decide) rfl (fun c112 => ?_) (fun c112 => ?_)
            · skip
              refine z_aload_n (q := 135) C 0 rfl rfl dX2_makeOfOne_134 rfl ?_
              refine z_get (q := 138) (v := .int (nI 13)) C hiX2 0 5 rfl rfl (by decide) hf21 rfl dX2_makeOfOne_135 rfl ?_
              refine z_bipush (q := 140) C k_bipush_10 dX2_makeOfOne_138 rfl ?_
              refine z_icmp_ne_n (q := 143) (tgt := 162) C (by omega) (by omega) dX2_makeOfOne_140 (by decide) rfl (fun c140 => ?_) (fun c140 => ?_)
              · skip
                refine z_aload_n (q := 163) C 0 rfl rfl dX2_makeOfOne_162 rfl ?_
                refine z_get (q := 166) (v := .int (nI 13)) C hiX2 0 5 rfl rfl (by decide) hf21 rfl dX2_makeOfOne_163 rfl ?_
                refine z_bipush (q := 168) C k_bipush_12 dX2_makeOfOne_166 rfl ?_
                refine z_icmp_ne_n (q := 171) (tgt := 192) C (by omega) (by omega) dX2_makeOfOne_168 (by decide) rfl (fun c168 => ?_) (fun c168 => ?_)
                · skip
                  refine z_aload_n (q := 193) C 0 rfl rfl dX2_makeOfOne_192 rfl ?_
                  refine z_get (q := 196) (v := .int (nI 13)) C hiX2 0 5 rfl rfl (by decide) hf21 rfl dX2_makeOfOne_193 rfl ?_
                  refine z_bipush (q := 198) C k_bipush_13 dX2_makeOfOne_196 rfl ?_
                  refine z_icmp_ne_n (q := 201) (tgt := 219) C (by omega) (by omega) dX2_makeOfOne_198 (by decide) rfl (fun c198 => ?_) (fun c198 => ?_)
                  · exact absurd c198 (by decide)
                  · skip
                    refine z_iload_n (q := 202) C 2 rfl rfl dX2_makeOfOne_201 rfl ?_
                    refine z_if_ne_z (q := 205) (tgt := 219) C dX2_makeOfOne_202 (by decide) rfl (fun c202 => ?_) (fun c202 => ?_)
                    · skip
                      refine z_vret C E (by omega) (by omega) dX2_makeOfOne_219 ?_
                      refine ⟨F, n, ov, ?_, rfl, rfl⟩
                      rw [show oneL nl tf 13 s p o = _ from if_neg (fun z => c202 z.1)]
                      exact hR
                    · skip
                      refine z_iload_n (q := 206) C 3 rfl rfl dX2_makeOfOne_205 rfl ?_
                      refine z_bipush (q := 208) C k_bipush_9 dX2_makeOfOne_206 rfl ?_
                      refine z_icmp_ne (q := 211) (tgt := 219) C dX2_makeOfOne_208 (by decide) rfl (fun c208 => ?_) (fun c208 => ?_)
                      · skip
                        refine z_vret C E (by omega) (by omega) dX2_makeOfOne_219 ?_
                        refine ⟨F, n, ov, ?_, rfl, rfl⟩
                        rw [show oneL nl tf 13 s p o = _ from if_neg (fun z => c208 z.2)]
                        exact hR
                      · skip
                        refine z_aload_n (q := 212) C 0 rfl rfl dX2_makeOfOne_211 rfl ?_
                        refine z_iload_n (q := 213) C 1 rfl rfl dX2_makeOfOne_212 rfl ?_
                        refine z_iconst (q := 214) C k_iconst_4 dX2_makeOfOne_213 rfl ?_
                        refine z_bipush (q := 216) C k_bipush_8 dX2_makeOfOne_214 rfl ?_
                        refine z_callV (q := 219) (n := 3) (As := [.int s, .int (nI 4), .int (nI 8)]) (rest := []) (wr := [(ht, .inr (4, [.ref ta, .int (nI nl)])), (ta, .inl (X.cI, 40, .inl tf))]) C (c_X2_make X.l X.D X.2.1 hr ht sp en rd 13 x y h a F n ov am S hR s (nI 4) (nI 8)) gX2_makeOfOne_X2_make rfl rfl rfl (by decide +kernel) (by decide) ⟨by first | decide | omega, by first | decide | omega⟩ 0 2 rfl rfl [0, 3, 4, 5, 6, 7, 8, 9, 10, 11, 12] [1, 2] rfl rfl (by decide) (by decide) (by decide) rfl rfl (Nat.le_of_ble_eq_true rfl) dX2_makeOfOne_216 rfl (fun v w1 hp => ?_)
                        obtain ⟨F1, n1, o1, hR1, rfl, rfl⟩ := hp
                        show zW X 4 [(ht, .inr (4, [.ref ta, .int (nI nl)])), (ta, .inl (X.cI, 40, .inl tf)), (hr, .inr (2, [.ref ht, .ref h, .int (nI sp), .int (nI en), .int rd, .int (nI 13), .int x, .int y])), (h, .inr (3, [.ref (a 0), .ref (a 1), .ref (a 2), .ref (a 3), .ref (a 4), .ref (a 5), .ref (a 6), .ref (a 7), .ref (a 8), .int (nI n1), .int (zb o1), .int am])), (a 0, .inl (X.cI, 600, .inl (F1 0))), (a 1, .inl (X.cI, 600, .inl (F1 1))), (a 2, .inl (X.cI, 600, .inl (F1 2))), (a 3, .inl (X.cI, 600, .inl (F1 3))), (a 4, .inl (X.cI, 600, .inl (F1 4))), (a 5, .inl (X.cI, 600, .inl (F1 5))), (a 6, .inl (X.cI, 600, .inl (F1 6))), (a 7, .inl (X.cI, 1024, .inl (F1 7))), (a 8, .inl (X.cZ, 600, .inl (F1 8)))] _ _ 219 _ []
                        refine z_ws (ws' := [(hr, .inr (2, [.ref ht, .ref h, .int (nI sp), .int (nI en), .int rd, .int (nI 13), .int x, .int y])), (ht, .inr (4, [.ref ta, .int (nI nl)])), (ta, .inl (X.cI, 40, .inl tf)), (h, .inr (3, [.ref (a 0), .ref (a 1), .ref (a 2), .ref (a 3), .ref (a 4), .ref (a 5), .ref (a 6), .ref (a 7), .ref (a 8), .int (nI n1), .int (zb o1), .int am])), (a 0, .inl (X.cI, 600, .inl (F1 0))), (a 1, .inl (X.cI, 600, .inl (F1 1))), (a 2, .inl (X.cI, 600, .inl (F1 2))), (a 3, .inl (X.cI, 600, .inl (F1 3))), (a 4, .inl (X.cI, 600, .inl (F1 4))), (a 5, .inl (X.cI, 600, .inl (F1 5))), (a 6, .inl (X.cI, 600, .inl (F1 6))), (a 7, .inl (X.cI, 1024, .inl (F1 7))), (a 8, .inl (X.cZ, 600, .inl (F1 8)))]) [2, 0, 1, 3, 4, 5, 6, 7, 8, 9, 10, 11, 12] (by decide) rfl ?_
                        refine z_vret C E (by omega) (by omega) dX2_makeOfOne_219 ?_
                        refine ⟨F1, n1, o1, ?_, rfl, rfl⟩
                        rw [show oneL nl tf 13 s p o = _ from if_pos ⟨c202, c208⟩]
                        exact hR1
                · exact absurd c168 (by decide)
              · exact absurd c140 (by decide)
            · exact absurd c112 (by decide)
          · exact absurd c84 (by decide)
        · exact absurd c58 (by decide)
      · exact absurd c40 (by decide)
    · exact absurd c4 (by decide)

set_option maxHeartbeats 4000000 in
set_option maxRecDepth 100000 in
theorem c_X2_makeOfTwo (l : Launch) (D : va_G) (g : ClassId × ClassId × ClassId) (hr ht : Nat) (sp en : Nat) (rd : Int32) (rule : Nat) (x y : Int32) (ta nl : Nat) (hnl : nl ≤ 40) (h : Nat) (a : Nat → Nat) (F : Nat → Nat → Int32) (n : Nat) (ov : Bool) (am : Int32) (S : RSt) (hR : rowsRep F n ov S) (c d s p o : Int32) (hru : rule = 2 ∨ rule = 3 ∨ rule = 5 ∨ rule = 7 ∨ rule = 9 ∨ rule = 11) : zM l yX2_makeOfTwo wsX2_makeOfTwo ({ frames := 3, cells := 0, slots := 0, locals := 77 } : Room) D g [.ref hr, .int c, .int d, .int s, .int p, .int o] [(hr, .inr (2, [.ref ht, .ref h, .int (nI sp), .int (nI en), .int rd, .int (nI rule), .int x, .int y])), (ht, .inr (4, [.ref ta, .int (nI nl)])), (h, .inr (3, [.ref (a 0), .ref (a 1), .ref (a 2), .ref (a 3), .ref (a 4), .ref (a 5), .ref (a 6), .ref (a 7), .ref (a 8), .int (nI n), .int (zb ov), .int am])), (a 0, .inl (g.1, 600, .inl (F 0))), (a 1, .inl (g.1, 600, .inl (F 1))), (a 2, .inl (g.1, 600, .inl (F 2))), (a 3, .inl (g.1, 600, .inl (F 3))), (a 4, .inl (g.1, 600, .inl (F 4))), (a 5, .inl (g.1, 600, .inl (F 5))), (a 6, .inl (g.1, 600, .inl (F 6))), (a 7, .inl (g.1, 1024, .inl (F 7))), (a 8, .inl (g.2.1, 600, .inl (F 8)))] 0 0 (fun v w1 => ∃ (F1 : Nat → Nat → Int32) (n1 : Nat) (o1 : Bool), rowsRep F1 n1 o1 (addL S rule x y rd (twoL nl rule c d s p o)) ∧ v = none ∧ w1 = [(hr, .inr (2, [.ref ht, .ref h, .int (nI sp), .int (nI en), .int rd, .int (nI rule), .int x, .int y])), (ht, .inr (4, [.ref ta, .int (nI nl)])), (h, .inr (3, [.ref (a 0), .ref (a 1), .ref (a 2), .ref (a 3), .ref (a 4), .ref (a 5), .ref (a 6), .ref (a 7), .ref (a 8), .int (nI n1), .int (zb o1), .int am])), (a 0, .inl (g.1, 600, .inl (F1 0))), (a 1, .inl (g.1, 600, .inl (F1 1))), (a 2, .inl (g.1, 600, .inl (F1 2))), (a 3, .inl (g.1, 600, .inl (F1 3))), (a 4, .inl (g.1, 600, .inl (F1 4))), (a 5, .inl (g.1, 600, .inl (F1 5))), (a 6, .inl (g.1, 600, .inl (F1 6))), (a 7, .inl (g.1, 1024, .inl (F1 7))), (a 8, .inl (g.2.1, 600, .inl (F1 8)))]) := by
  refine z_met (cc := cX2_makeOfTwo) (maxL := 6) (ret := none) (lv := [(0, .ref hr), (1, .int c), (2, .int d), (3, .int s), (4, .int p), (5, .int o)]) (by decide) rfl (Nat.le_of_ble_eq_true rfl) rfl ?_
  intro X hXD hXg hXl hnm C E
  subst hXD hXg hXl
  have C : zC X cX2_makeOfTwo 6 RX2 wsX2_makeOfTwo ({ frames := 3, cells := 0, slots := 0, locals := 77 } : Room) := C
  have hiX2 : ∀ w ∈ u_ws RX2 TX2 8, w ∈ wsX2_makeOfTwo := by decide +kernel
  have hf21 : Cond.fieldLink RX2 21 "RdfsRules$Reasoner" "maker" "I" ∈ wsX2_makeOfTwo := by decide +kernel
  have hf30 : Cond.fieldLink RX2 30 "RdfsRules$Reasoner" "terms" "LRdfsRules$Terms;" ∈ wsX2_makeOfTwo := by decide +kernel
  rcases hru with rfl | rfl | rfl | rfl | rfl | rfl
  · skip
    refine z_aload_n (q := 1) C 0 rfl rfl dX2_makeOfTwo_0 rfl ?_
    refine z_get (q := 4) (v := .int (nI 2)) C hiX2 0 5 rfl rfl (by decide) hf21 rfl dX2_makeOfTwo_1 rfl ?_
    refine z_iconst (q := 5) C k_iconst_2 dX2_makeOfTwo_4 rfl ?_
    refine z_icmp_ne_n (q := 8) (tgt := 24) C (by omega) (by omega) dX2_makeOfTwo_5 (by decide) rfl (fun c5 => ?_) (fun c5 => ?_)
    · exact absurd c5 (by decide)
    · skip
      refine z_iload (q := 10) C 4 rfl dX2_makeOfTwo_8 rfl ?_
      refine z_iload_n (q := 11) C 1 rfl rfl dX2_makeOfTwo_10 rfl ?_
      refine z_icmp_ne (q := 14) (tgt := 24) C dX2_makeOfTwo_11 (by decide) rfl (fun c11 => ?_) (fun c11 => ?_)
      · skip
        refine z_aload_n (q := 25) C 0 rfl rfl dX2_makeOfTwo_24 rfl ?_
        refine z_get (q := 28) (v := .int (nI 2)) C hiX2 0 5 rfl rfl (by decide) hf21 rfl dX2_makeOfTwo_25 rfl ?_
        refine z_iconst (q := 29) C k_iconst_3 dX2_makeOfTwo_28 rfl ?_
        refine z_icmp_ne_n (q := 32) (tgt := 49) C (by omega) (by omega) dX2_makeOfTwo_29 (by decide) rfl (fun c29 => ?_) (fun c29 => ?_)
        · skip
          refine z_aload_n (q := 50) C 0 rfl rfl dX2_makeOfTwo_49 rfl ?_
          refine z_get (q := 53) (v := .int (nI 2)) C hiX2 0 5 rfl rfl (by decide) hf21 rfl dX2_makeOfTwo_50 rfl ?_
          refine z_iconst (q := 54) C k_iconst_5 dX2_makeOfTwo_53 rfl ?_
          refine z_icmp_ne_n (q := 57) (tgt := 79) C (by omega) (by omega) dX2_makeOfTwo_54 (by decide) rfl (fun c54 => ?_) (fun c54 => ?_)
          · skip
            refine z_aload_n (q := 80) C 0 rfl rfl dX2_makeOfTwo_79 rfl ?_
            refine z_get (q := 83) (v := .int (nI 2)) C hiX2 0 5 rfl rfl (by decide) hf21 rfl dX2_makeOfTwo_80 rfl ?_
            refine z_bipush (q := 85) C k_bipush_7 dX2_makeOfTwo_83 rfl ?_
            refine z_icmp_ne_n (q := 88) (tgt := 116) C (by omega) (by omega) dX2_makeOfTwo_85 (by decide) rfl (fun c85 => ?_) (fun c85 => ?_)
            · skip
              refine z_aload_n (q := 117) C 0 rfl rfl dX2_makeOfTwo_116 rfl ?_
              refine z_get (q := 120) (v := .int (nI 2)) C hiX2 0 5 rfl rfl (by decide) hf21 rfl dX2_makeOfTwo_117 rfl ?_
              refine z_bipush (q := 122) C k_bipush_9 dX2_makeOfTwo_120 rfl ?_
              refine z_icmp_ne_n (q := 125) (tgt := 146) C (by omega) (by omega) dX2_makeOfTwo_122 (by decide) rfl (fun c122 => ?_) (fun c122 => ?_)
              · skip
                refine z_aload_n (q := 147) C 0 rfl rfl dX2_makeOfTwo_146 rfl ?_
                refine z_get (q := 150) (v := .int (nI 2)) C hiX2 0 5 rfl rfl (by decide) hf21 rfl dX2_makeOfTwo_147 rfl ?_
                refine z_bipush (q := 152) C k_bipush_11 dX2_makeOfTwo_150 rfl ?_
                refine z_icmp_ne_n (q := 155) (tgt := 174) C (by omega) (by omega) dX2_makeOfTwo_152 (by decide) rfl (fun c152 => ?_) (fun c152 => ?_)
                · skip
                  refine z_vret C E (by omega) (by omega) dX2_makeOfTwo_174 ?_
                  refine ⟨F, n, ov, ?_, rfl, rfl⟩
                  rw [show twoL nl 2 c d s p o = _ from if_neg c11]
                  exact hR
                · exact absurd c152 (by decide)
              · exact absurd c122 (by decide)
            · exact absurd c85 (by decide)
          · exact absurd c54 (by decide)
        · exact absurd c29 (by decide)
      · skip
        refine z_aload_n (q := 15) C 0 rfl rfl dX2_makeOfTwo_14 rfl ?_
        refine z_iload_n (q := 16) C 3 rfl rfl dX2_makeOfTwo_15 rfl ?_
        refine z_iconst (q := 17) C k_iconst_0 dX2_makeOfTwo_16 rfl ?_
        refine z_iload_n (q := 18) C 2 rfl rfl dX2_makeOfTwo_17 rfl ?_
        refine z_callV (q := 21) (n := 3) (As := [.int s, .int (nI 0), .int d]) (rest := []) (wr := [(ht, .inr (4, [.ref ta, .int (nI nl)]))]) C (c_X2_make X.l X.D X.2.1 hr ht sp en rd 2 x y h a F n ov am S hR s (nI 0) d) gX2_makeOfTwo_X2_make rfl rfl rfl (by decide +kernel) (by decide) ⟨by first | decide | omega, by first | decide | omega⟩ 0 2 rfl rfl [0, 2, 3, 4, 5, 6, 7, 8, 9, 10, 11] [1] rfl rfl (by decide) (by decide) (by decide) rfl rfl (Nat.le_of_ble_eq_true rfl) dX2_makeOfTwo_18 rfl (fun v w1 hp => ?_)
        obtain ⟨F1, n1, o1, hR1, rfl, rfl⟩ := hp
        show zW X 6 [(ht, .inr (4, [.ref ta, .int (nI nl)])), (hr, .inr (2, [.ref ht, .ref h, .int (nI sp), .int (nI en), .int rd, .int (nI 2), .int x, .int y])), (h, .inr (3, [.ref (a 0), .ref (a 1), .ref (a 2), .ref (a 3), .ref (a 4), .ref (a 5), .ref (a 6), .ref (a 7), .ref (a 8), .int (nI n1), .int (zb o1), .int am])), (a 0, .inl (X.cI, 600, .inl (F1 0))), (a 1, .inl (X.cI, 600, .inl (F1 1))), (a 2, .inl (X.cI, 600, .inl (F1 2))), (a 3, .inl (X.cI, 600, .inl (F1 3))), (a 4, .inl (X.cI, 600, .inl (F1 4))), (a 5, .inl (X.cI, 600, .inl (F1 5))), (a 6, .inl (X.cI, 600, .inl (F1 6))), (a 7, .inl (X.cI, 1024, .inl (F1 7))), (a 8, .inl (X.cZ, 600, .inl (F1 8)))] _ _ 21 _ []
        refine z_goto (tgt := 174) C dX2_makeOfTwo_21 (by decide) ?_
        refine z_ws (ws' := [(hr, .inr (2, [.ref ht, .ref h, .int (nI sp), .int (nI en), .int rd, .int (nI 2), .int x, .int y])), (ht, .inr (4, [.ref ta, .int (nI nl)])), (h, .inr (3, [.ref (a 0), .ref (a 1), .ref (a 2), .ref (a 3), .ref (a 4), .ref (a 5), .ref (a 6), .ref (a 7), .ref (a 8), .int (nI n1), .int (zb o1), .int am])), (a 0, .inl (X.cI, 600, .inl (F1 0))), (a 1, .inl (X.cI, 600, .inl (F1 1))), (a 2, .inl (X.cI, 600, .inl (F1 2))), (a 3, .inl (X.cI, 600, .inl (F1 3))), (a 4, .inl (X.cI, 600, .inl (F1 4))), (a 5, .inl (X.cI, 600, .inl (F1 5))), (a 6, .inl (X.cI, 600, .inl (F1 6))), (a 7, .inl (X.cI, 1024, .inl (F1 7))), (a 8, .inl (X.cZ, 600, .inl (F1 8)))]) [1, 0, 2, 3, 4, 5, 6, 7, 8, 9, 10, 11] (by decide) rfl ?_
        refine z_vret C E (by omega) (by omega) dX2_makeOfTwo_174 ?_
        refine ⟨F1, n1, o1, ?_, rfl, rfl⟩
        rw [show twoL nl 2 c d s p o = _ from if_pos c11]
        exact hR1
  · skip
    refine z_aload_n (q := 1) C 0 rfl rfl dX2_makeOfTwo_0 rfl ?_
    refine z_get (q := 4) (v := .int (nI 3)) C hiX2 0 5 rfl rfl (by decide) hf21 rfl dX2_makeOfTwo_1 rfl ?_
    refine z_iconst (q := 5) C k_iconst_2 dX2_makeOfTwo_4 rfl ?_
    refine z_icmp_ne_n (q := 8) (tgt := 24) C (by omega) (by omega) dX2_makeOfTwo_5 (by decide) rfl (fun c5 => ?_) (fun c5 => ?_)
    · skip
      refine z_aload_n (q := 25) C 0 rfl rfl dX2_makeOfTwo_24 rfl ?_
      refine z_get (q := 28) (v := .int (nI 3)) C hiX2 0 5 rfl rfl (by decide) hf21 rfl dX2_makeOfTwo_25 rfl ?_
      refine z_iconst (q := 29) C k_iconst_3 dX2_makeOfTwo_28 rfl ?_
      refine z_icmp_ne_n (q := 32) (tgt := 49) C (by omega) (by omega) dX2_makeOfTwo_29 (by decide) rfl (fun c29 => ?_) (fun c29 => ?_)
      · exact absurd c29 (by decide)
      · skip
        refine z_iload (q := 34) C 4 rfl dX2_makeOfTwo_32 rfl ?_
        refine z_iload_n (q := 35) C 1 rfl rfl dX2_makeOfTwo_34 rfl ?_
        refine z_icmp_ne (q := 38) (tgt := 49) C dX2_makeOfTwo_35 (by decide) rfl (fun c35 => ?_) (fun c35 => ?_)
        · skip
          refine z_aload_n (q := 50) C 0 rfl rfl dX2_makeOfTwo_49 rfl ?_
          refine z_get (q := 53) (v := .int (nI 3)) C hiX2 0 5 rfl rfl (by decide) hf21 rfl dX2_makeOfTwo_50 rfl ?_
          refine z_iconst (q := 54) C k_iconst_5 dX2_makeOfTwo_53 rfl ?_
          refine z_icmp_ne_n (q := 57) (tgt := 79) C (by omega) (by omega) dX2_makeOfTwo_54 (by decide) rfl (fun c54 => ?_) (fun c54 => ?_)
          · skip
            refine z_aload_n (q := 80) C 0 rfl rfl dX2_makeOfTwo_79 rfl ?_
            refine z_get (q := 83) (v := .int (nI 3)) C hiX2 0 5 rfl rfl (by decide) hf21 rfl dX2_makeOfTwo_80 rfl ?_
            refine z_bipush (q := 85) C k_bipush_7 dX2_makeOfTwo_83 rfl ?_
            refine z_icmp_ne_n (q := 88) (tgt := 116) C (by omega) (by omega) dX2_makeOfTwo_85 (by decide) rfl (fun c85 => ?_) (fun c85 => ?_)
            · skip
              refine z_aload_n (q := 117) C 0 rfl rfl dX2_makeOfTwo_116 rfl ?_
              refine z_get (q := 120) (v := .int (nI 3)) C hiX2 0 5 rfl rfl (by decide) hf21 rfl dX2_makeOfTwo_117 rfl ?_
              refine z_bipush (q := 122) C k_bipush_9 dX2_makeOfTwo_120 rfl ?_
              refine z_icmp_ne_n (q := 125) (tgt := 146) C (by omega) (by omega) dX2_makeOfTwo_122 (by decide) rfl (fun c122 => ?_) (fun c122 => ?_)
              · skip
                refine z_aload_n (q := 147) C 0 rfl rfl dX2_makeOfTwo_146 rfl ?_
                refine z_get (q := 150) (v := .int (nI 3)) C hiX2 0 5 rfl rfl (by decide) hf21 rfl dX2_makeOfTwo_147 rfl ?_
                refine z_bipush (q := 152) C k_bipush_11 dX2_makeOfTwo_150 rfl ?_
                refine z_icmp_ne_n (q := 155) (tgt := 174) C (by omega) (by omega) dX2_makeOfTwo_152 (by decide) rfl (fun c152 => ?_) (fun c152 => ?_)
                · skip
                  refine z_vret C E (by omega) (by omega) dX2_makeOfTwo_174 ?_
                  refine ⟨F, n, ov, ?_, rfl, rfl⟩
                  rw [show twoL nl 3 c d s p o = _ from if_neg c35]
                  exact hR
                · exact absurd c152 (by decide)
              · exact absurd c122 (by decide)
            · exact absurd c85 (by decide)
          · exact absurd c54 (by decide)
        · skip
          refine z_aload_n (q := 39) C 0 rfl rfl dX2_makeOfTwo_38 rfl ?_
          refine z_iload (q := 41) C 5 rfl dX2_makeOfTwo_39 rfl ?_
          refine z_iconst (q := 42) C k_iconst_0 dX2_makeOfTwo_41 rfl ?_
          refine z_iload_n (q := 43) C 2 rfl rfl dX2_makeOfTwo_42 rfl ?_
          refine z_callV (q := 46) (n := 3) (As := [.int o, .int (nI 0), .int d]) (rest := []) (wr := [(ht, .inr (4, [.ref ta, .int (nI nl)]))]) C (c_X2_make X.l X.D X.2.1 hr ht sp en rd 3 x y h a F n ov am S hR o (nI 0) d) gX2_makeOfTwo_X2_make rfl rfl rfl (by decide +kernel) (by decide) ⟨by first | decide | omega, by first | decide | omega⟩ 0 2 rfl rfl [0, 2, 3, 4, 5, 6, 7, 8, 9, 10, 11] [1] rfl rfl (by decide) (by decide) (by decide) rfl rfl (Nat.le_of_ble_eq_true rfl) dX2_makeOfTwo_43 rfl (fun v w1 hp => ?_)
          obtain ⟨F1, n1, o1, hR1, rfl, rfl⟩ := hp
          show zW X 6 [(ht, .inr (4, [.ref ta, .int (nI nl)])), (hr, .inr (2, [.ref ht, .ref h, .int (nI sp), .int (nI en), .int rd, .int (nI 3), .int x, .int y])), (h, .inr (3, [.ref (a 0), .ref (a 1), .ref (a 2), .ref (a 3), .ref (a 4), .ref (a 5), .ref (a 6), .ref (a 7), .ref (a 8), .int (nI n1), .int (zb o1), .int am])), (a 0, .inl (X.cI, 600, .inl (F1 0))), (a 1, .inl (X.cI, 600, .inl (F1 1))), (a 2, .inl (X.cI, 600, .inl (F1 2))), (a 3, .inl (X.cI, 600, .inl (F1 3))), (a 4, .inl (X.cI, 600, .inl (F1 4))), (a 5, .inl (X.cI, 600, .inl (F1 5))), (a 6, .inl (X.cI, 600, .inl (F1 6))), (a 7, .inl (X.cI, 1024, .inl (F1 7))), (a 8, .inl (X.cZ, 600, .inl (F1 8)))] _ _ 46 _ []
          refine z_goto (tgt := 174) C dX2_makeOfTwo_46 (by decide) ?_
          refine z_ws (ws' := [(hr, .inr (2, [.ref ht, .ref h, .int (nI sp), .int (nI en), .int rd, .int (nI 3), .int x, .int y])), (ht, .inr (4, [.ref ta, .int (nI nl)])), (h, .inr (3, [.ref (a 0), .ref (a 1), .ref (a 2), .ref (a 3), .ref (a 4), .ref (a 5), .ref (a 6), .ref (a 7), .ref (a 8), .int (nI n1), .int (zb o1), .int am])), (a 0, .inl (X.cI, 600, .inl (F1 0))), (a 1, .inl (X.cI, 600, .inl (F1 1))), (a 2, .inl (X.cI, 600, .inl (F1 2))), (a 3, .inl (X.cI, 600, .inl (F1 3))), (a 4, .inl (X.cI, 600, .inl (F1 4))), (a 5, .inl (X.cI, 600, .inl (F1 5))), (a 6, .inl (X.cI, 600, .inl (F1 6))), (a 7, .inl (X.cI, 1024, .inl (F1 7))), (a 8, .inl (X.cZ, 600, .inl (F1 8)))]) [1, 0, 2, 3, 4, 5, 6, 7, 8, 9, 10, 11] (by decide) rfl ?_
          refine z_vret C E (by omega) (by omega) dX2_makeOfTwo_174 ?_
          refine ⟨F1, n1, o1, ?_, rfl, rfl⟩
          rw [show twoL nl 3 c d s p o = _ from if_pos c35]
          exact hR1
    · exact absurd c5 (by decide)
  · skip
    refine z_aload_n (q := 1) C 0 rfl rfl dX2_makeOfTwo_0 rfl ?_
    refine z_get (q := 4) (v := .int (nI 5)) C hiX2 0 5 rfl rfl (by decide) hf21 rfl dX2_makeOfTwo_1 rfl ?_
    refine z_iconst (q := 5) C k_iconst_2 dX2_makeOfTwo_4 rfl ?_
    refine z_icmp_ne_n (q := 8) (tgt := 24) C (by omega) (by omega) dX2_makeOfTwo_5 (by decide) rfl (fun c5 => ?_) (fun c5 => ?_)
    · skip
      refine z_aload_n (q := 25) C 0 rfl rfl dX2_makeOfTwo_24 rfl ?_
      refine z_get (q := 28) (v := .int (nI 5)) C hiX2 0 5 rfl rfl (by decide) hf21 rfl dX2_makeOfTwo_25 rfl ?_
      refine z_iconst (q := 29) C k_iconst_3 dX2_makeOfTwo_28 rfl ?_
      refine z_icmp_ne_n (q := 32) (tgt := 49) C (by omega) (by omega) dX2_makeOfTwo_29 (by decide) rfl (fun c29 => ?_) (fun c29 => ?_)
      · skip
        refine z_aload_n (q := 50) C 0 rfl rfl dX2_makeOfTwo_49 rfl ?_
        refine z_get (q := 53) (v := .int (nI 5)) C hiX2 0 5 rfl rfl (by decide) hf21 rfl dX2_makeOfTwo_50 rfl ?_
        refine z_iconst (q := 54) C k_iconst_5 dX2_makeOfTwo_53 rfl ?_
        refine z_icmp_ne_n (q := 57) (tgt := 79) C (by omega) (by omega) dX2_makeOfTwo_54 (by decide) rfl (fun c54 => ?_) (fun c54 => ?_)
        · exact absurd c54 (by decide)
        · skip
          refine z_iload (q := 59) C 4 rfl dX2_makeOfTwo_57 rfl ?_
          refine z_iconst (q := 60) C k_iconst_5 dX2_makeOfTwo_59 rfl ?_
          refine z_icmp_ne (q := 63) (tgt := 79) C dX2_makeOfTwo_60 (by decide) rfl (fun c60 => ?_) (fun c60 => ?_)
          · skip
            refine z_aload_n (q := 80) C 0 rfl rfl dX2_makeOfTwo_79 rfl ?_
            refine z_get (q := 83) (v := .int (nI 5)) C hiX2 0 5 rfl rfl (by decide) hf21 rfl dX2_makeOfTwo_80 rfl ?_
            refine z_bipush (q := 85) C k_bipush_7 dX2_makeOfTwo_83 rfl ?_
            refine z_icmp_ne_n (q := 88) (tgt := 116) C (by omega) (by omega) dX2_makeOfTwo_85 (by decide) rfl (fun c85 => ?_) (fun c85 => ?_)
            · skip
              refine z_aload_n (q := 117) C 0 rfl rfl dX2_makeOfTwo_116 rfl ?_
              refine z_get (q := 120) (v := .int (nI 5)) C hiX2 0 5 rfl rfl (by decide) hf21 rfl dX2_makeOfTwo_117 rfl ?_
              refine z_bipush (q := 122) C k_bipush_9 dX2_makeOfTwo_120 rfl ?_
              refine z_icmp_ne_n (q := 125) (tgt := 146) C (by omega) (by omega) dX2_makeOfTwo_122 (by decide) rfl (fun c122 => ?_) (fun c122 => ?_)
              · skip
                refine z_aload_n (q := 147) C 0 rfl rfl dX2_makeOfTwo_146 rfl ?_
                refine z_get (q := 150) (v := .int (nI 5)) C hiX2 0 5 rfl rfl (by decide) hf21 rfl dX2_makeOfTwo_147 rfl ?_
                refine z_bipush (q := 152) C k_bipush_11 dX2_makeOfTwo_150 rfl ?_
                refine z_icmp_ne_n (q := 155) (tgt := 174) C (by omega) (by omega) dX2_makeOfTwo_152 (by decide) rfl (fun c152 => ?_) (fun c152 => ?_)
                · skip
                  refine z_vret C E (by omega) (by omega) dX2_makeOfTwo_174 ?_
                  refine ⟨F, n, ov, ?_, rfl, rfl⟩
                  rw [show twoL nl 5 c d s p o = _ from if_neg (fun z => c60 z.1)]
                  exact hR
                · exact absurd c152 (by decide)
              · exact absurd c122 (by decide)
            · exact absurd c85 (by decide)
          · skip
            refine z_iload_n (q := 64) C 3 rfl rfl dX2_makeOfTwo_63 rfl ?_
            refine z_iload_n (q := 65) C 2 rfl rfl dX2_makeOfTwo_64 rfl ?_
            refine z_icmp_ne (q := 68) (tgt := 79) C dX2_makeOfTwo_65 (by decide) rfl (fun c65 => ?_) (fun c65 => ?_)
            · skip
              refine z_aload_n (q := 80) C 0 rfl rfl dX2_makeOfTwo_79 rfl ?_
              refine z_get (q := 83) (v := .int (nI 5)) C hiX2 0 5 rfl rfl (by decide) hf21 rfl dX2_makeOfTwo_80 rfl ?_
              refine z_bipush (q := 85) C k_bipush_7 dX2_makeOfTwo_83 rfl ?_
              refine z_icmp_ne_n (q := 88) (tgt := 116) C (by omega) (by omega) dX2_makeOfTwo_85 (by decide) rfl (fun c85 => ?_) (fun c85 => ?_)
              · skip
                refine z_aload_n (q := 117) C 0 rfl rfl dX2_makeOfTwo_116 rfl ?_
                refine z_get (q := 120) (v := .int (nI 5)) C hiX2 0 5 rfl rfl (by decide) hf21 rfl dX2_makeOfTwo_117 rfl ?_
                refine z_bipush (q := 122) C k_bipush_9 dX2_makeOfTwo_120 rfl ?_
                refine z_icmp_ne_n (q := 125) (tgt := 146) C (by omega) (by omega) dX2_makeOfTwo_122 (by decide) rfl (fun c122 => ?_) (fun c122 => ?_)
                · skip
                  refine z_aload_n (q := 147) C 0 rfl rfl dX2_makeOfTwo_146 rfl ?_
                  refine z_get (q := 150) (v := .int (nI 5)) C hiX2 0 5 rfl rfl (by decide) hf21 rfl dX2_makeOfTwo_147 rfl ?_
                  refine z_bipush (q := 152) C k_bipush_11 dX2_makeOfTwo_150 rfl ?_
                  refine z_icmp_ne_n (q := 155) (tgt := 174) C (by omega) (by omega) dX2_makeOfTwo_152 (by decide) rfl (fun c152 => ?_) (fun c152 => ?_)
                  · skip
                    refine z_vret C E (by omega) (by omega) dX2_makeOfTwo_174 ?_
                    refine ⟨F, n, ov, ?_, rfl, rfl⟩
                    rw [show twoL nl 5 c d s p o = _ from if_neg (fun z => c65 z.2)]
                    exact hR
                  · exact absurd c152 (by decide)
                · exact absurd c122 (by decide)
              · exact absurd c85 (by decide)
            · skip
              refine z_aload_n (q := 69) C 0 rfl rfl dX2_makeOfTwo_68 rfl ?_
              refine z_iload_n (q := 70) C 1 rfl rfl dX2_makeOfTwo_69 rfl ?_
              refine z_iconst (q := 71) C k_iconst_5 dX2_makeOfTwo_70 rfl ?_
              refine z_iload (q := 73) C 5 rfl dX2_makeOfTwo_71 rfl ?_
              refine z_callV (q := 76) (n := 3) (As := [.int c, .int (nI 5), .int o]) (rest := []) (wr := [(ht, .inr (4, [.ref ta, .int (nI nl)]))]) C (c_X2_make X.l X.D X.2.1 hr ht sp en rd 5 x y h a F n ov am S hR c (nI 5) o) gX2_makeOfTwo_X2_make rfl rfl rfl (by decide +kernel) (by decide) ⟨by first | decide | omega, by first | decide | omega⟩ 0 2 rfl rfl [0, 2, 3, 4, 5, 6, 7, 8, 9, 10, 11] [1] rfl rfl (by decide) (by decide) (by decide) rfl rfl (Nat.le_of_ble_eq_true rfl) dX2_makeOfTwo_73 rfl (fun v w1 hp => ?_)
              obtain ⟨F1, n1, o1, hR1, rfl, rfl⟩ := hp
              show zW X 6 [(ht, .inr (4, [.ref ta, .int (nI nl)])), (hr, .inr (2, [.ref ht, .ref h, .int (nI sp), .int (nI en), .int rd, .int (nI 5), .int x, .int y])), (h, .inr (3, [.ref (a 0), .ref (a 1), .ref (a 2), .ref (a 3), .ref (a 4), .ref (a 5), .ref (a 6), .ref (a 7), .ref (a 8), .int (nI n1), .int (zb o1), .int am])), (a 0, .inl (X.cI, 600, .inl (F1 0))), (a 1, .inl (X.cI, 600, .inl (F1 1))), (a 2, .inl (X.cI, 600, .inl (F1 2))), (a 3, .inl (X.cI, 600, .inl (F1 3))), (a 4, .inl (X.cI, 600, .inl (F1 4))), (a 5, .inl (X.cI, 600, .inl (F1 5))), (a 6, .inl (X.cI, 600, .inl (F1 6))), (a 7, .inl (X.cI, 1024, .inl (F1 7))), (a 8, .inl (X.cZ, 600, .inl (F1 8)))] _ _ 76 _ []
              refine z_goto (tgt := 174) C dX2_makeOfTwo_76 (by decide) ?_
              refine z_ws (ws' := [(hr, .inr (2, [.ref ht, .ref h, .int (nI sp), .int (nI en), .int rd, .int (nI 5), .int x, .int y])), (ht, .inr (4, [.ref ta, .int (nI nl)])), (h, .inr (3, [.ref (a 0), .ref (a 1), .ref (a 2), .ref (a 3), .ref (a 4), .ref (a 5), .ref (a 6), .ref (a 7), .ref (a 8), .int (nI n1), .int (zb o1), .int am])), (a 0, .inl (X.cI, 600, .inl (F1 0))), (a 1, .inl (X.cI, 600, .inl (F1 1))), (a 2, .inl (X.cI, 600, .inl (F1 2))), (a 3, .inl (X.cI, 600, .inl (F1 3))), (a 4, .inl (X.cI, 600, .inl (F1 4))), (a 5, .inl (X.cI, 600, .inl (F1 5))), (a 6, .inl (X.cI, 600, .inl (F1 6))), (a 7, .inl (X.cI, 1024, .inl (F1 7))), (a 8, .inl (X.cZ, 600, .inl (F1 8)))]) [1, 0, 2, 3, 4, 5, 6, 7, 8, 9, 10, 11] (by decide) rfl ?_
              refine z_vret C E (by omega) (by omega) dX2_makeOfTwo_174 ?_
              refine ⟨F1, n1, o1, ?_, rfl, rfl⟩
              rw [show twoL nl 5 c d s p o = _ from if_pos ⟨c60, c65⟩]
              exact hR1
      · exact absurd c29 (by decide)
    · exact absurd c5 (by decide)
  · skip
    refine z_aload_n (q := 1) C 0 rfl rfl dX2_makeOfTwo_0 rfl ?_
    refine z_get (q := 4) (v := .int (nI 7)) C hiX2 0 5 rfl rfl (by decide) hf21 rfl dX2_makeOfTwo_1 rfl ?_
    refine z_iconst (q := 5) C k_iconst_2 dX2_makeOfTwo_4 rfl ?_
    refine z_icmp_ne_n (q := 8) (tgt := 24) C (by omega) (by omega) dX2_makeOfTwo_5 (by decide) rfl (fun c5 => ?_) (fun c5 => ?_)
    · skip
      refine z_aload_n (q := 25) C 0 rfl rfl dX2_makeOfTwo_24 rfl ?_
      refine z_get (q := 28) (v := .int (nI 7)) C hiX2 0 5 rfl rfl (by decide) hf21 rfl dX2_makeOfTwo_25 rfl ?_
      refine z_iconst (q := 29) C k_iconst_3 dX2_makeOfTwo_28 rfl ?_
      refine z_icmp_ne_n (q := 32) (tgt := 49) C (by omega) (by omega) dX2_makeOfTwo_29 (by decide) rfl (fun c29 => ?_) (fun c29 => ?_)
      · skip
        refine z_aload_n (q := 50) C 0 rfl rfl dX2_makeOfTwo_49 rfl ?_
        refine z_get (q := 53) (v := .int (nI 7)) C hiX2 0 5 rfl rfl (by decide) hf21 rfl dX2_makeOfTwo_50 rfl ?_
        refine z_iconst (q := 54) C k_iconst_5 dX2_makeOfTwo_53 rfl ?_
        refine z_icmp_ne_n (q := 57) (tgt := 79) C (by omega) (by omega) dX2_makeOfTwo_54 (by decide) rfl (fun c54 => ?_) (fun c54 => ?_)
        · skip
          refine z_aload_n (q := 80) C 0 rfl rfl dX2_makeOfTwo_79 rfl ?_
          refine z_get (q := 83) (v := .int (nI 7)) C hiX2 0 5 rfl rfl (by decide) hf21 rfl dX2_makeOfTwo_80 rfl ?_
          refine z_bipush (q := 85) C k_bipush_7 dX2_makeOfTwo_83 rfl ?_
          refine z_icmp_ne_n (q := 88) (tgt := 116) C (by omega) (by omega) dX2_makeOfTwo_85 (by decide) rfl (fun c85 => ?_) (fun c85 => ?_)
          · exact absurd c85 (by decide)
          · skip
            refine z_iload (q := 90) C 4 rfl dX2_makeOfTwo_88 rfl ?_
            refine z_iload_n (q := 91) C 1 rfl rfl dX2_makeOfTwo_90 rfl ?_
            refine z_icmp_ne (q := 94) (tgt := 116) C dX2_makeOfTwo_91 (by decide) rfl (fun c91 => ?_) (fun c91 => ?_)
            · skip
              refine z_aload_n (q := 117) C 0 rfl rfl dX2_makeOfTwo_116 rfl ?_
              refine z_get (q := 120) (v := .int (nI 7)) C hiX2 0 5 rfl rfl (by decide) hf21 rfl dX2_makeOfTwo_117 rfl ?_
              refine z_bipush (q := 122) C k_bipush_9 dX2_makeOfTwo_120 rfl ?_
              refine z_icmp_ne_n (q := 125) (tgt := 146) C (by omega) (by omega) dX2_makeOfTwo_122 (by decide) rfl (fun c122 => ?_) (fun c122 => ?_)
              · skip
                refine z_aload_n (q := 147) C 0 rfl rfl dX2_makeOfTwo_146 rfl ?_
                refine z_get (q := 150) (v := .int (nI 7)) C hiX2 0 5 rfl rfl (by decide) hf21 rfl dX2_makeOfTwo_147 rfl ?_
                refine z_bipush (q := 152) C k_bipush_11 dX2_makeOfTwo_150 rfl ?_
                refine z_icmp_ne_n (q := 155) (tgt := 174) C (by omega) (by omega) dX2_makeOfTwo_152 (by decide) rfl (fun c152 => ?_) (fun c152 => ?_)
                · skip
                  refine z_vret C E (by omega) (by omega) dX2_makeOfTwo_174 ?_
                  refine ⟨F, n, ov, ?_, rfl, rfl⟩
                  rw [show twoL nl 7 c d s p o = _ from if_neg (fun z => c91 z.1)]
                  exact hR
                · exact absurd c152 (by decide)
              · exact absurd c122 (by decide)
            · skip
              refine z_aload_n (q := 95) C 0 rfl rfl dX2_makeOfTwo_94 rfl ?_
              refine z_get (q := 98) (v := .ref ht) C hiX2 0 0 rfl rfl (by decide) hf30 rfl dX2_makeOfTwo_95 rfl ?_
              refine z_iload_n (q := 99) C 2 rfl rfl dX2_makeOfTwo_98 rfl ?_
              refine z_callV (q := 102) (n := 1) (As := [.int d]) (rest := []) (wr := [(hr, .inr (2, [.ref ht, .ref h, .int (nI sp), .int (nI en), .int rd, .int (nI 7), .int x, .int y])), (h, .inr (3, [.ref (a 0), .ref (a 1), .ref (a 2), .ref (a 3), .ref (a 4), .ref (a 5), .ref (a 6), .ref (a 7), .ref (a 8), .int (nI n), .int (zb ov), .int am])), (a 0, .inl (X.cI, 600, .inl (F 0))), (a 1, .inl (X.cI, 600, .inl (F 1))), (a 2, .inl (X.cI, 600, .inl (F 2))), (a 3, .inl (X.cI, 600, .inl (F 3))), (a 4, .inl (X.cI, 600, .inl (F 4))), (a 5, .inl (X.cI, 600, .inl (F 5))), (a 6, .inl (X.cI, 600, .inl (F 6))), (a 7, .inl (X.cI, 1024, .inl (F 7))), (a 8, .inl (X.cZ, 600, .inl (F 8)))]) C (c_X4_isLiteral X.l X.D X.2.1 ht ta nl hnl d) gX2_makeOfTwo_X4_isLiteral rfl rfl rfl (by decide +kernel) (by decide) ⟨by first | decide | omega, by first | decide | omega⟩ 0 4 rfl rfl [1] [0, 2, 3, 4, 5, 6, 7, 8, 9, 10, 11] rfl rfl (by decide) (by decide) (by decide) rfl rfl (Nat.le_of_ble_eq_true rfl) dX2_makeOfTwo_99 rfl (fun v w1 hp => ?_)
              obtain ⟨rfl, rfl⟩ := hp
              show zW X 6 [(hr, .inr (2, [.ref ht, .ref h, .int (nI sp), .int (nI en), .int rd, .int (nI 7), .int x, .int y])), (h, .inr (3, [.ref (a 0), .ref (a 1), .ref (a 2), .ref (a 3), .ref (a 4), .ref (a 5), .ref (a 6), .ref (a 7), .ref (a 8), .int (nI n), .int (zb ov), .int am])), (a 0, .inl (X.cI, 600, .inl (F 0))), (a 1, .inl (X.cI, 600, .inl (F 1))), (a 2, .inl (X.cI, 600, .inl (F 2))), (a 3, .inl (X.cI, 600, .inl (F 3))), (a 4, .inl (X.cI, 600, .inl (F 4))), (a 5, .inl (X.cI, 600, .inl (F 5))), (a 6, .inl (X.cI, 600, .inl (F 6))), (a 7, .inl (X.cI, 1024, .inl (F 7))), (a 8, .inl (X.cZ, 600, .inl (F 8))), (ht, .inr (4, [.ref ta, .int (nI nl)]))] _ _ 102 _ [.int (zb (litB nl d))]
              refine z_if_ne_b (q := 105) (tgt := 116) C dX2_makeOfTwo_102 (by decide) rfl (fun c102 => ?_) (fun c102 => ?_)
              · skip
                refine z_aload_n (q := 117) C 0 rfl rfl dX2_makeOfTwo_116 rfl ?_
                refine z_get (q := 120) (v := .int (nI 7)) C hiX2 0 5 rfl rfl (by decide) hf21 rfl dX2_makeOfTwo_117 rfl ?_
                refine z_bipush (q := 122) C k_bipush_9 dX2_makeOfTwo_120 rfl ?_
                refine z_icmp_ne_n (q := 125) (tgt := 146) C (by omega) (by omega) dX2_makeOfTwo_122 (by decide) rfl (fun c122 => ?_) (fun c122 => ?_)
                · skip
                  refine z_aload_n (q := 147) C 0 rfl rfl dX2_makeOfTwo_146 rfl ?_
                  refine z_get (q := 150) (v := .int (nI 7)) C hiX2 0 5 rfl rfl (by decide) hf21 rfl dX2_makeOfTwo_147 rfl ?_
                  refine z_bipush (q := 152) C k_bipush_11 dX2_makeOfTwo_150 rfl ?_
                  refine z_icmp_ne_n (q := 155) (tgt := 174) C (by omega) (by omega) dX2_makeOfTwo_152 (by decide) rfl (fun c152 => ?_) (fun c152 => ?_)
                  · skip
                    refine z_ws (ws' := [(hr, .inr (2, [.ref ht, .ref h, .int (nI sp), .int (nI en), .int rd, .int (nI 7), .int x, .int y])), (ht, .inr (4, [.ref ta, .int (nI nl)])), (h, .inr (3, [.ref (a 0), .ref (a 1), .ref (a 2), .ref (a 3), .ref (a 4), .ref (a 5), .ref (a 6), .ref (a 7), .ref (a 8), .int (nI n), .int (zb ov), .int am])), (a 0, .inl (X.cI, 600, .inl (F 0))), (a 1, .inl (X.cI, 600, .inl (F 1))), (a 2, .inl (X.cI, 600, .inl (F 2))), (a 3, .inl (X.cI, 600, .inl (F 3))), (a 4, .inl (X.cI, 600, .inl (F 4))), (a 5, .inl (X.cI, 600, .inl (F 5))), (a 6, .inl (X.cI, 600, .inl (F 6))), (a 7, .inl (X.cI, 1024, .inl (F 7))), (a 8, .inl (X.cZ, 600, .inl (F 8)))]) [0, 11, 1, 2, 3, 4, 5, 6, 7, 8, 9, 10] (by decide) rfl ?_
                    refine z_vret C E (by omega) (by omega) dX2_makeOfTwo_174 ?_
                    refine ⟨F, n, ov, ?_, rfl, rfl⟩
                    rw [show twoL nl 7 c d s p o = _ from if_neg (fun z => by rw [c102] at z; exact absurd z.2 (by decide))]
                    exact hR
                  · exact absurd c152 (by decide)
                · exact absurd c122 (by decide)
              · skip
                refine z_aload_n (q := 106) C 0 rfl rfl dX2_makeOfTwo_105 rfl ?_
                refine z_iload_n (q := 107) C 3 rfl rfl dX2_makeOfTwo_106 rfl ?_
                refine z_iload_n (q := 108) C 2 rfl rfl dX2_makeOfTwo_107 rfl ?_
                refine z_iload (q := 110) C 5 rfl dX2_makeOfTwo_108 rfl ?_
                refine z_callV (q := 113) (n := 3) (As := [.int s, .int d, .int o]) (rest := []) (wr := [(ht, .inr (4, [.ref ta, .int (nI nl)]))]) C (c_X2_make X.l X.D X.2.1 hr ht sp en rd 7 x y h a F n ov am S hR s d o) gX2_makeOfTwo_X2_make rfl rfl rfl (by decide +kernel) (by decide) ⟨by first | decide | omega, by first | decide | omega⟩ 0 2 rfl rfl [0, 1, 2, 3, 4, 5, 6, 7, 8, 9, 10] [11] rfl rfl (by decide) (by decide) (by decide) rfl rfl (Nat.le_of_ble_eq_true rfl) dX2_makeOfTwo_110 rfl (fun v w1 hp => ?_)
                obtain ⟨F1, n1, o1, hR1, rfl, rfl⟩ := hp
                show zW X 6 [(ht, .inr (4, [.ref ta, .int (nI nl)])), (hr, .inr (2, [.ref ht, .ref h, .int (nI sp), .int (nI en), .int rd, .int (nI 7), .int x, .int y])), (h, .inr (3, [.ref (a 0), .ref (a 1), .ref (a 2), .ref (a 3), .ref (a 4), .ref (a 5), .ref (a 6), .ref (a 7), .ref (a 8), .int (nI n1), .int (zb o1), .int am])), (a 0, .inl (X.cI, 600, .inl (F1 0))), (a 1, .inl (X.cI, 600, .inl (F1 1))), (a 2, .inl (X.cI, 600, .inl (F1 2))), (a 3, .inl (X.cI, 600, .inl (F1 3))), (a 4, .inl (X.cI, 600, .inl (F1 4))), (a 5, .inl (X.cI, 600, .inl (F1 5))), (a 6, .inl (X.cI, 600, .inl (F1 6))), (a 7, .inl (X.cI, 1024, .inl (F1 7))), (a 8, .inl (X.cZ, 600, .inl (F1 8)))] _ _ 113 _ []
                refine z_goto (tgt := 174) C dX2_makeOfTwo_113 (by decide) ?_
                refine z_ws (ws' := [(hr, .inr (2, [.ref ht, .ref h, .int (nI sp), .int (nI en), .int rd, .int (nI 7), .int x, .int y])), (ht, .inr (4, [.ref ta, .int (nI nl)])), (h, .inr (3, [.ref (a 0), .ref (a 1), .ref (a 2), .ref (a 3), .ref (a 4), .ref (a 5), .ref (a 6), .ref (a 7), .ref (a 8), .int (nI n1), .int (zb o1), .int am])), (a 0, .inl (X.cI, 600, .inl (F1 0))), (a 1, .inl (X.cI, 600, .inl (F1 1))), (a 2, .inl (X.cI, 600, .inl (F1 2))), (a 3, .inl (X.cI, 600, .inl (F1 3))), (a 4, .inl (X.cI, 600, .inl (F1 4))), (a 5, .inl (X.cI, 600, .inl (F1 5))), (a 6, .inl (X.cI, 600, .inl (F1 6))), (a 7, .inl (X.cI, 1024, .inl (F1 7))), (a 8, .inl (X.cZ, 600, .inl (F1 8)))]) [1, 0, 2, 3, 4, 5, 6, 7, 8, 9, 10, 11] (by decide) rfl ?_
                refine z_vret C E (by omega) (by omega) dX2_makeOfTwo_174 ?_
                refine ⟨F1, n1, o1, ?_, rfl, rfl⟩
                rw [show twoL nl 7 c d s p o = _ from if_pos ⟨c91, c102⟩]
                exact hR1
        · exact absurd c54 (by decide)
      · exact absurd c29 (by decide)
    · exact absurd c5 (by decide)
  · skip
    refine z_aload_n (q := 1) C 0 rfl rfl dX2_makeOfTwo_0 rfl ?_
    refine z_get (q := 4) (v := .int (nI 9)) C hiX2 0 5 rfl rfl (by decide) hf21 rfl dX2_makeOfTwo_1 rfl ?_
    refine z_iconst (q := 5) C k_iconst_2 dX2_makeOfTwo_4 rfl ?_
    refine z_icmp_ne_n (q := 8) (tgt := 24) C (by omega) (by omega) dX2_makeOfTwo_5 (by decide) rfl (fun c5 => ?_) (fun c5 => ?_)
    · skip
      refine z_aload_n (q := 25) C 0 rfl rfl dX2_makeOfTwo_24 rfl ?_
      refine z_get (q := 28) (v := .int (nI 9)) C hiX2 0 5 rfl rfl (by decide) hf21 rfl dX2_makeOfTwo_25 rfl ?_
      refine z_iconst (q := 29) C k_iconst_3 dX2_makeOfTwo_28 rfl ?_
      refine z_icmp_ne_n (q := 32) (tgt := 49) C (by omega) (by omega) dX2_makeOfTwo_29 (by decide) rfl (fun c29 => ?_) (fun c29 => ?_)
      · skip
        refine z_aload_n (q := 50) C 0 rfl rfl dX2_makeOfTwo_49 rfl ?_
        refine z_get (q := 53) (v := .int (nI 9)) C hiX2 0 5 rfl rfl (by decide) hf21 rfl dX2_makeOfTwo_50 rfl ?_
        refine z_iconst (q := 54) C k_iconst_5 dX2_makeOfTwo_53 rfl ?_
        refine z_icmp_ne_n (q := 57) (tgt := 79) C (by omega) (by omega) dX2_makeOfTwo_54 (by decide) rfl (fun c54 => ?_) (fun c54 => ?_)
        · skip
          refine z_aload_n (q := 80) C 0 rfl rfl dX2_makeOfTwo_79 rfl ?_
          refine z_get (q := 83) (v := .int (nI 9)) C hiX2 0 5 rfl rfl (by decide) hf21 rfl dX2_makeOfTwo_80 rfl ?_
          refine z_bipush (q := 85) C k_bipush_7 dX2_makeOfTwo_83 rfl ?_
          refine z_icmp_ne_n (q := 88) (tgt := 116) C (by omega) (by omega) dX2_makeOfTwo_85 (by decide) rfl (fun c85 => ?_) (fun c85 => ?_)
          · skip
            refine z_aload_n (q := 117) C 0 rfl rfl dX2_makeOfTwo_116 rfl ?_
            refine z_get (q := 120) (v := .int (nI 9)) C hiX2 0 5 rfl rfl (by decide) hf21 rfl dX2_makeOfTwo_117 rfl ?_
            refine z_bipush (q := 122) C k_bipush_9 dX2_makeOfTwo_120 rfl ?_
            refine z_icmp_ne_n (q := 125) (tgt := 146) C (by omega) (by omega) dX2_makeOfTwo_122 (by decide) rfl (fun c122 => ?_) (fun c122 => ?_)
            · exact absurd c122 (by decide)
            · skip
              refine z_iload (q := 127) C 4 rfl dX2_makeOfTwo_125 rfl ?_
              refine z_if_ne_z (q := 130) (tgt := 146) C dX2_makeOfTwo_127 (by decide) rfl (fun c127 => ?_) (fun c127 => ?_)
              · skip
                refine z_aload_n (q := 147) C 0 rfl rfl dX2_makeOfTwo_146 rfl ?_
                refine z_get (q := 150) (v := .int (nI 9)) C hiX2 0 5 rfl rfl (by decide) hf21 rfl dX2_makeOfTwo_147 rfl ?_
                refine z_bipush (q := 152) C k_bipush_11 dX2_makeOfTwo_150 rfl ?_
                refine z_icmp_ne_n (q := 155) (tgt := 174) C (by omega) (by omega) dX2_makeOfTwo_152 (by decide) rfl (fun c152 => ?_) (fun c152 => ?_)
                · skip
                  refine z_vret C E (by omega) (by omega) dX2_makeOfTwo_174 ?_
                  refine ⟨F, n, ov, ?_, rfl, rfl⟩
                  rw [show twoL nl 9 c d s p o = _ from if_neg (fun z => c127 z.1)]
                  exact hR
                · exact absurd c152 (by decide)
              · skip
                refine z_iload (q := 132) C 5 rfl dX2_makeOfTwo_130 rfl ?_
                refine z_iload_n (q := 133) C 1 rfl rfl dX2_makeOfTwo_132 rfl ?_
                refine z_icmp_ne (q := 136) (tgt := 146) C dX2_makeOfTwo_133 (by decide) rfl (fun c133 => ?_) (fun c133 => ?_)
                · skip
                  refine z_aload_n (q := 147) C 0 rfl rfl dX2_makeOfTwo_146 rfl ?_
                  refine z_get (q := 150) (v := .int (nI 9)) C hiX2 0 5 rfl rfl (by decide) hf21 rfl dX2_makeOfTwo_147 rfl ?_
                  refine z_bipush (q := 152) C k_bipush_11 dX2_makeOfTwo_150 rfl ?_
                  refine z_icmp_ne_n (q := 155) (tgt := 174) C (by omega) (by omega) dX2_makeOfTwo_152 (by decide) rfl (fun c152 => ?_) (fun c152 => ?_)
                  · skip
                    refine z_vret C E (by omega) (by omega) dX2_makeOfTwo_174 ?_
                    refine ⟨F, n, ov, ?_, rfl, rfl⟩
                    rw [show twoL nl 9 c d s p o = _ from if_neg (fun z => c133 z.2)]
                    exact hR
                  · exact absurd c152 (by decide)
                · skip
                  refine z_aload_n (q := 137) C 0 rfl rfl dX2_makeOfTwo_136 rfl ?_
                  refine z_iload_n (q := 138) C 3 rfl rfl dX2_makeOfTwo_137 rfl ?_
                  refine z_iconst (q := 139) C k_iconst_0 dX2_makeOfTwo_138 rfl ?_
                  refine z_iload_n (q := 140) C 2 rfl rfl dX2_makeOfTwo_139 rfl ?_
                  refine z_callV (q := 143) (n := 3) (As := [.int s, .int (nI 0), .int d]) (rest := []) (wr := [(ht, .inr (4, [.ref ta, .int (nI nl)]))]) C (c_X2_make X.l X.D X.2.1 hr ht sp en rd 9 x y h a F n ov am S hR s (nI 0) d) gX2_makeOfTwo_X2_make rfl rfl rfl (by decide +kernel) (by decide) ⟨by first | decide | omega, by first | decide | omega⟩ 0 2 rfl rfl [0, 2, 3, 4, 5, 6, 7, 8, 9, 10, 11] [1] rfl rfl (by decide) (by decide) (by decide) rfl rfl (Nat.le_of_ble_eq_true rfl) dX2_makeOfTwo_140 rfl (fun v w1 hp => ?_)
                  obtain ⟨F1, n1, o1, hR1, rfl, rfl⟩ := hp
                  show zW X 6 [(ht, .inr (4, [.ref ta, .int (nI nl)])), (hr, .inr (2, [.ref ht, .ref h, .int (nI sp), .int (nI en), .int rd, .int (nI 9), .int x, .int y])), (h, .inr (3, [.ref (a 0), .ref (a 1), .ref (a 2), .ref (a 3), .ref (a 4), .ref (a 5), .ref (a 6), .ref (a 7), .ref (a 8), .int (nI n1), .int (zb o1), .int am])), (a 0, .inl (X.cI, 600, .inl (F1 0))), (a 1, .inl (X.cI, 600, .inl (F1 1))), (a 2, .inl (X.cI, 600, .inl (F1 2))), (a 3, .inl (X.cI, 600, .inl (F1 3))), (a 4, .inl (X.cI, 600, .inl (F1 4))), (a 5, .inl (X.cI, 600, .inl (F1 5))), (a 6, .inl (X.cI, 600, .inl (F1 6))), (a 7, .inl (X.cI, 1024, .inl (F1 7))), (a 8, .inl (X.cZ, 600, .inl (F1 8)))] _ _ 143 _ []
                  refine z_goto (tgt := 174) C dX2_makeOfTwo_143 (by decide) ?_
                  refine z_ws (ws' := [(hr, .inr (2, [.ref ht, .ref h, .int (nI sp), .int (nI en), .int rd, .int (nI 9), .int x, .int y])), (ht, .inr (4, [.ref ta, .int (nI nl)])), (h, .inr (3, [.ref (a 0), .ref (a 1), .ref (a 2), .ref (a 3), .ref (a 4), .ref (a 5), .ref (a 6), .ref (a 7), .ref (a 8), .int (nI n1), .int (zb o1), .int am])), (a 0, .inl (X.cI, 600, .inl (F1 0))), (a 1, .inl (X.cI, 600, .inl (F1 1))), (a 2, .inl (X.cI, 600, .inl (F1 2))), (a 3, .inl (X.cI, 600, .inl (F1 3))), (a 4, .inl (X.cI, 600, .inl (F1 4))), (a 5, .inl (X.cI, 600, .inl (F1 5))), (a 6, .inl (X.cI, 600, .inl (F1 6))), (a 7, .inl (X.cI, 1024, .inl (F1 7))), (a 8, .inl (X.cZ, 600, .inl (F1 8)))]) [1, 0, 2, 3, 4, 5, 6, 7, 8, 9, 10, 11] (by decide) rfl ?_
                  refine z_vret C E (by omega) (by omega) dX2_makeOfTwo_174 ?_
                  refine ⟨F1, n1, o1, ?_, rfl, rfl⟩
                  rw [show twoL nl 9 c d s p o = _ from if_pos ⟨c127, c133⟩]
                  exact hR1
          · exact absurd c85 (by decide)
        · exact absurd c54 (by decide)
      · exact absurd c29 (by decide)
    · exact absurd c5 (by decide)
  · skip
    refine z_aload_n (q := 1) C 0 rfl rfl dX2_makeOfTwo_0 rfl ?_
    refine z_get (q := 4) (v := .int (nI 11)) C hiX2 0 5 rfl rfl (by decide) hf21 rfl dX2_makeOfTwo_1 rfl ?_
    refine z_iconst (q := 5) C k_iconst_2 dX2_makeOfTwo_4 rfl ?_
    refine z_icmp_ne_n (q := 8) (tgt := 24) C (by omega) (by omega) dX2_makeOfTwo_5 (by decide) rfl (fun c5 => ?_) (fun c5 => ?_)
    · skip
      refine z_aload_n (q := 25) C 0 rfl rfl dX2_makeOfTwo_24 rfl ?_
      refine z_get (q := 28) (v := .int (nI 11)) C hiX2 0 5 rfl rfl (by decide) hf21 rfl dX2_makeOfTwo_25 rfl ?_
      refine z_iconst (q := 29) C k_iconst_3 dX2_makeOfTwo_28 rfl ?_
      refine z_icmp_ne_n (q := 32) (tgt := 49) C (by omega) (by omega) dX2_makeOfTwo_29 (by decide) rfl (fun c29 => ?_) (fun c29 => ?_)
      · skip
        refine z_aload_n (q := 50) C 0 rfl rfl dX2_makeOfTwo_49 rfl ?_
        refine z_get (q := 53) (v := .int (nI 11)) C hiX2 0 5 rfl rfl (by decide) hf21 rfl dX2_makeOfTwo_50 rfl ?_
        refine z_iconst (q := 54) C k_iconst_5 dX2_makeOfTwo_53 rfl ?_
        refine z_icmp_ne_n (q := 57) (tgt := 79) C (by omega) (by omega) dX2_makeOfTwo_54 (by decide) rfl (fun c54 => ?_) (fun c54 => ?_)
        · skip
          refine z_aload_n (q := 80) C 0 rfl rfl dX2_makeOfTwo_79 rfl ?_
          refine z_get (q := 83) (v := .int (nI 11)) C hiX2 0 5 rfl rfl (by decide) hf21 rfl dX2_makeOfTwo_80 rfl ?_
          refine z_bipush (q := 85) C k_bipush_7 dX2_makeOfTwo_83 rfl ?_
          refine z_icmp_ne_n (q := 88) (tgt := 116) C (by omega) (by omega) dX2_makeOfTwo_85 (by decide) rfl (fun c85 => ?_) (fun c85 => ?_)
          · skip
            refine z_aload_n (q := 117) C 0 rfl rfl dX2_makeOfTwo_116 rfl ?_
            refine z_get (q := 120) (v := .int (nI 11)) C hiX2 0 5 rfl rfl (by decide) hf21 rfl dX2_makeOfTwo_117 rfl ?_
            refine z_bipush (q := 122) C k_bipush_9 dX2_makeOfTwo_120 rfl ?_
            refine z_icmp_ne_n (q := 125) (tgt := 146) C (by omega) (by omega) dX2_makeOfTwo_122 (by decide) rfl (fun c122 => ?_) (fun c122 => ?_)
            · skip
              refine z_aload_n (q := 147) C 0 rfl rfl dX2_makeOfTwo_146 rfl ?_
              refine z_get (q := 150) (v := .int (nI 11)) C hiX2 0 5 rfl rfl (by decide) hf21 rfl dX2_makeOfTwo_147 rfl ?_
              refine z_bipush (q := 152) C k_bipush_11 dX2_makeOfTwo_150 rfl ?_
              refine z_icmp_ne_n (q := 155) (tgt := 174) C (by omega) (by omega) dX2_makeOfTwo_152 (by decide) rfl (fun c152 => ?_) (fun c152 => ?_)
              · exact absurd c152 (by decide)
              · skip
                refine z_iload (q := 157) C 4 rfl dX2_makeOfTwo_155 rfl ?_
                refine z_iconst (q := 158) C k_iconst_4 dX2_makeOfTwo_157 rfl ?_
                refine z_icmp_ne (q := 161) (tgt := 174) C dX2_makeOfTwo_158 (by decide) rfl (fun c158 => ?_) (fun c158 => ?_)
                · skip
                  refine z_vret C E (by omega) (by omega) dX2_makeOfTwo_174 ?_
                  refine ⟨F, n, ov, ?_, rfl, rfl⟩
                  rw [show twoL nl 11 c d s p o = _ from if_neg (fun z => c158 z.1)]
                  exact hR
                · skip
                  refine z_iload_n (q := 162) C 3 rfl rfl dX2_makeOfTwo_161 rfl ?_
                  refine z_iload_n (q := 163) C 2 rfl rfl dX2_makeOfTwo_162 rfl ?_
                  refine z_icmp_ne (q := 166) (tgt := 174) C dX2_makeOfTwo_163 (by decide) rfl (fun c163 => ?_) (fun c163 => ?_)
                  · skip
                    refine z_vret C E (by omega) (by omega) dX2_makeOfTwo_174 ?_
                    refine ⟨F, n, ov, ?_, rfl, rfl⟩
                    rw [show twoL nl 11 c d s p o = _ from if_neg (fun z => c163 z.2)]
                    exact hR
                  · skip
                    refine z_aload_n (q := 167) C 0 rfl rfl dX2_makeOfTwo_166 rfl ?_
                    refine z_iload_n (q := 168) C 1 rfl rfl dX2_makeOfTwo_167 rfl ?_
                    refine z_iconst (q := 169) C k_iconst_4 dX2_makeOfTwo_168 rfl ?_
                    refine z_iload (q := 171) C 5 rfl dX2_makeOfTwo_169 rfl ?_
                    refine z_callV (q := 174) (n := 3) (As := [.int c, .int (nI 4), .int o]) (rest := []) (wr := [(ht, .inr (4, [.ref ta, .int (nI nl)]))]) C (c_X2_make X.l X.D X.2.1 hr ht sp en rd 11 x y h a F n ov am S hR c (nI 4) o) gX2_makeOfTwo_X2_make rfl rfl rfl (by decide +kernel) (by decide) ⟨by first | decide | omega, by first | decide | omega⟩ 0 2 rfl rfl [0, 2, 3, 4, 5, 6, 7, 8, 9, 10, 11] [1] rfl rfl (by decide) (by decide) (by decide) rfl rfl (Nat.le_of_ble_eq_true rfl) dX2_makeOfTwo_171 rfl (fun v w1 hp => ?_)
                    obtain ⟨F1, n1, o1, hR1, rfl, rfl⟩ := hp
                    show zW X 6 [(ht, .inr (4, [.ref ta, .int (nI nl)])), (hr, .inr (2, [.ref ht, .ref h, .int (nI sp), .int (nI en), .int rd, .int (nI 11), .int x, .int y])), (h, .inr (3, [.ref (a 0), .ref (a 1), .ref (a 2), .ref (a 3), .ref (a 4), .ref (a 5), .ref (a 6), .ref (a 7), .ref (a 8), .int (nI n1), .int (zb o1), .int am])), (a 0, .inl (X.cI, 600, .inl (F1 0))), (a 1, .inl (X.cI, 600, .inl (F1 1))), (a 2, .inl (X.cI, 600, .inl (F1 2))), (a 3, .inl (X.cI, 600, .inl (F1 3))), (a 4, .inl (X.cI, 600, .inl (F1 4))), (a 5, .inl (X.cI, 600, .inl (F1 5))), (a 6, .inl (X.cI, 600, .inl (F1 6))), (a 7, .inl (X.cI, 1024, .inl (F1 7))), (a 8, .inl (X.cZ, 600, .inl (F1 8)))] _ _ 174 _ []
                    refine z_ws (ws' := [(hr, .inr (2, [.ref ht, .ref h, .int (nI sp), .int (nI en), .int rd, .int (nI 11), .int x, .int y])), (ht, .inr (4, [.ref ta, .int (nI nl)])), (h, .inr (3, [.ref (a 0), .ref (a 1), .ref (a 2), .ref (a 3), .ref (a 4), .ref (a 5), .ref (a 6), .ref (a 7), .ref (a 8), .int (nI n1), .int (zb o1), .int am])), (a 0, .inl (X.cI, 600, .inl (F1 0))), (a 1, .inl (X.cI, 600, .inl (F1 1))), (a 2, .inl (X.cI, 600, .inl (F1 2))), (a 3, .inl (X.cI, 600, .inl (F1 3))), (a 4, .inl (X.cI, 600, .inl (F1 4))), (a 5, .inl (X.cI, 600, .inl (F1 5))), (a 6, .inl (X.cI, 600, .inl (F1 6))), (a 7, .inl (X.cI, 1024, .inl (F1 7))), (a 8, .inl (X.cZ, 600, .inl (F1 8)))]) [1, 0, 2, 3, 4, 5, 6, 7, 8, 9, 10, 11] (by decide) rfl ?_
                    refine z_vret C E (by omega) (by omega) dX2_makeOfTwo_174 ?_
                    refine ⟨F1, n1, o1, ?_, rfl, rfl⟩
                    rw [show twoL nl 11 c d s p o = _ from if_pos ⟨c158, c163⟩]
                    exact hR1
            · exact absurd c122 (by decide)
          · exact absurd c85 (by decide)
        · exact absurd c54 (by decide)
      · exact absurd c29 (by decide)
    · exact absurd c5 (by decide)
end
section
/-! rounds -/
def stp (S S' : RSt) : Prop := (∃ M, S'.1 = S.1 ++ M) ∧ (S.2 = true → S' = S)
theorem stp.rf (S : RSt) : stp S S := ⟨⟨[], (List.append_nil _).symm⟩, fun _ => rfl⟩
theorem stp.tr {S S' S'' : RSt} (h : stp S S') (h' : stp S' S'') : stp S S'' := by
  obtain ⟨⟨M, e⟩, f⟩ := h
  obtain ⟨⟨M', e'⟩, f'⟩ := h'
  exact ⟨⟨M ++ M', by rw [e', e, List.append_assoc]⟩, fun g => by rw [f' (by rw [f g]; exact g), f g]⟩
theorem stp.nf {S S' : RSt} (h : stp S S') (g : S'.2 = false) : S.2 = false := by
  cases e : S.2 with
  | false => rfl
  | true => rw [h.2 e, e] at g; cases g
theorem addR_stp (S : RSt) (r : Row) : stp S (addR S r) := by
  unfold addR
  split
  · exact stp.rf S
  · split
    · exact stp.rf S
    · split
      · exact ⟨⟨[], (List.append_nil _).symm⟩, fun g => by contradiction⟩
      · exact ⟨⟨[r], rfl⟩, fun g => by contradiction⟩
theorem hasF_app {L M : List Row} {s p o : Int32} (h : hasF L s p o = true) : hasF (L ++ M) s p o = true := by
  unfold hasF at *
  rw [List.any_append, h, Bool.true_or]
theorem hasF_stp {S S' : RSt} (h : stp S S') {s p o : Int32} (g : hasF S.1 s p o = true) : hasF S'.1 s p o = true := by
  obtain ⟨⟨M, e⟩, -⟩ := h
  rw [e]
  exact hasF_app g
theorem addR_no {S : RSt} {r : Row} (h : hasF S.1 (r 0) (r 1) (r 2) = true) : addR S r = S := by
  unfold addR
  split
  · rfl
  · first | rfl | rw [if_pos h]
theorem addR_has {S : RSt} {r : Row} (h : (addR S r).2 = false) : hasF (addR S r).1 (r 0) (r 1) (r 2) = true := by
  unfold addR at h ⊢
  split
  · rename_i c
    rw [if_pos c, c] at h
    cases h
  · rename_i c
    rw [if_neg c] at h
    split
    · rename_i c2
      exact c2
    · rename_i c2
      rw [if_neg c2] at h
      split
      · rename_i c3
        rw [if_pos c3] at h
        cases h
      · unfold hasF
        rw [List.any_append]
        simp
theorem addL_stp (ts : List Fact) : ∀ (S : RSt) (rule : Nat) (x y rd : Int32), stp S (addL S rule x y rd ts) := by
  induction ts with
  | nil => intro S _ _ _ _; exact stp.rf S
  | cons t ts ih => intro S rule x y rd; exact (addR_stp S _).tr (ih _ rule x y rd)
theorem addL_has (ts : List Fact) : ∀ (S : RSt) (rule : Nat) (x y rd : Int32), (addL S rule x y rd ts).2 = false → ∀ t ∈ ts, hasF (addL S rule x y rd ts).1 t.1 t.2.1 t.2.2 = true := by
  induction ts with
  | nil => intro S _ _ _ _ _ t ht; cases ht
  | cons u ts ih =>
    intro S rule x y rd h t ht
    have st := addL_stp ts (addR S (mkRow u.1 u.2.1 u.2.2 (nI rule) x y rd)) rule x y rd
    rcases List.mem_cons.mp ht with rfl | ht
    · exact hasF_stp st (addR_has (r := mkRow t.1 t.2.1 t.2.2 (nI rule) x y rd) (st.nf h))
    · exact ih _ rule x y rd h t ht
theorem addL_no (ts : List Fact) : ∀ (S : RSt) (rule : Nat) (x y rd : Int32), (∀ t ∈ ts, hasF S.1 t.1 t.2.1 t.2.2 = true) → addL S rule x y rd ts = S := by
  induction ts with
  | nil => intro S _ _ _ _ _; rfl
  | cons u ts ih =>
    intro S rule x y rd h
    show addL (addR S (mkRow u.1 u.2.1 u.2.2 (nI rule) x y rd)) rule x y rd ts = S
    rw [addR_no (r := mkRow u.1 u.2.1 u.2.2 (nI rule) x y rd) (h u List.mem_cons_self)]
    exact ih S rule x y rd (fun t ht => h t (List.mem_cons_of_mem _ ht))
section RN
variable (nl : Nat) (f : Nat → Int32) (L : List Row) (rule : Nat) (rd : Int32)
def singN (S : RSt) : Nat → RSt
  | 0 => S
  | i + 1 => addL (singN S i) rule (nI i) (-1) rd (oneL nl f rule (L.getD i r0 0) (L.getD i r0 1) (L.getD i r0 2))
def pairN (i : Nat) (S : RSt) : Nat → RSt
  | 0 => S
  | k + 1 => addL (pairN i S k) rule (nI i) (nI k) rd (twoL nl rule (L.getD i r0 0) (L.getD i r0 2) (L.getD k r0 0) (L.getD k r0 1) (L.getD k r0 2))
def pairsN (S : RSt) : Nat → RSt
  | 0 => S
  | i + 1 => if L.getD i r0 1 = firstP rule then pairN nl L rule rd i (pairsN S i) L.length else pairsN S i
def ruleS (S : RSt) : RSt := if firstP rule = (-1) then singN nl f L rule rd S L.length else pairsN nl L rule rd S L.length
end RN
def roundN (nl : Nat) (f : Nat → Int32) (L : List Row) (rd : Int32) : Nat → RSt
  | 0 => (L, false)
  | r + 1 => ruleS nl f L r rd (roundN nl f L rd r)
section RL
variable {nl : Nat} {f : Nat → Int32} {L : List Row} {rule : Nat} {rd : Int32}
theorem singN_stp (S : RSt) : ∀ i, stp S (singN nl f L rule rd S i)
  | 0 => stp.rf S
  | i + 1 => (singN_stp S i).tr (addL_stp _ _ _ _ _ _)
theorem singN_mono (S : RSt) : ∀ i j, i ≤ j → stp (singN nl f L rule rd S i) (singN nl f L rule rd S j) := by
  intro i j h
  induction j with
  | zero => rw [show i = 0 by omega]; exact stp.rf _
  | succ j ih =>
    rcases Nat.lt_or_ge i (j + 1) with c | c
    · exact (ih (by omega)).tr (addL_stp _ _ _ _ _ _)
    · rw [show i = j + 1 by omega]; exact stp.rf _
theorem pairN_stp (i : Nat) (S : RSt) : ∀ k, stp S (pairN nl L rule rd i S k)
  | 0 => stp.rf S
  | k + 1 => (pairN_stp i S k).tr (addL_stp _ _ _ _ _ _)
theorem pairN_mono (i : Nat) (S : RSt) : ∀ k j, k ≤ j → stp (pairN nl L rule rd i S k) (pairN nl L rule rd i S j) := by
  intro k j h
  induction j with
  | zero => rw [show k = 0 by omega]; exact stp.rf _
  | succ j ih =>
    rcases Nat.lt_or_ge k (j + 1) with c | c
    · exact (ih (by omega)).tr (addL_stp _ _ _ _ _ _)
    · rw [show k = j + 1 by omega]; exact stp.rf _
theorem pairsN_step (S : RSt) (i : Nat) : stp (pairsN nl L rule rd S i) (pairsN nl L rule rd S (i + 1)) := by
  show stp _ (if L.getD i r0 1 = firstP rule then _ else _)
  split
  · exact pairN_stp i _ _
  · exact stp.rf _
theorem pairsN_mono (S : RSt) : ∀ i j, i ≤ j → stp (pairsN nl L rule rd S i) (pairsN nl L rule rd S j) := by
  intro i j h
  induction j with
  | zero => rw [show i = 0 by omega]; exact stp.rf _
  | succ j ih =>
    rcases Nat.lt_or_ge i (j + 1) with c | c
    · exact (ih (by omega)).tr (pairsN_step S j)
    · rw [show i = j + 1 by omega]; exact stp.rf _
theorem ruleS_stp (S : RSt) : stp S (ruleS nl f L rule rd S) := by
  unfold ruleS
  split
  · exact singN_stp S _
  · exact pairsN_mono S 0 _ (Nat.zero_le _)
theorem roundN_mono : ∀ i j, i ≤ j → stp (roundN nl f L rd i) (roundN nl f L rd j) := by
  intro i j h
  induction j with
  | zero => rw [show i = 0 by omega]; exact stp.rf _
  | succ j ih =>
    rcases Nat.lt_or_ge i (j + 1) with c | c
    · exact (ih (by omega)).tr (ruleS_stp _)
    · rw [show i = j + 1 by omega]; exact stp.rf _
/-- rows of the beginning stay -/
theorem stp.get {S S' : RSt} (h : stp S S') {i : Nat} (hi : i < S.1.length) : S'.1.getD i r0 = S.1.getD i r0 := by
  obtain ⟨⟨M, e⟩, -⟩ := h
  rw [e, List.getD_eq_getElem?_getD, List.getElem?_append_left hi, ← List.getD_eq_getElem?_getD]
theorem stp.len {S S' : RSt} (h : stp S S') : S.1.length ≤ S'.1.length := by
  obtain ⟨⟨M, e⟩, -⟩ := h
  rw [e, List.length_append]
  omega
/-- of rows below m every rule has made all that it can -/
def DONE (nl : Nat) (f : Nat → Int32) (m : Nat) (L : List Row) : Prop :=
  (∀ rule i, rule < 14 → i < m → ∀ t ∈ oneL nl f rule (L.getD i r0 0) (L.getD i r0 1) (L.getD i r0 2), hasF L t.1 t.2.1 t.2.2 = true) ∧
  (∀ rule i k, rule < 14 → i < m → k < m → L.getD i r0 1 = firstP rule → ∀ t ∈ twoL nl rule (L.getD i r0 0) (L.getD i r0 2) (L.getD k r0 0) (L.getD k r0 1) (L.getD k r0 2), hasF L t.1 t.2.1 t.2.2 = true)
theorem DONE.sing {m : Nat} {S : RSt} (h : DONE nl f m L) (hr : rule < 14) (hS : stp (L, false) S) : ∀ j, j ≤ m → singN nl f L rule rd S j = S
  | 0, _ => rfl
  | j + 1, hj => by
    show addL (singN nl f L rule rd S j) _ _ _ _ _ = S
    rw [h.sing hr hS j (by omega)]
    exact addL_no _ _ _ _ _ _ (fun t ht => hasF_stp hS (h.1 rule j hr (by omega) t ht))
theorem DONE.pair {m i : Nat} {S : RSt} (h : DONE nl f m L) (hr : rule < 14) (hi : i < m) (hp : L.getD i r0 1 = firstP rule) (hS : stp (L, false) S) : ∀ j, j ≤ m → pairN nl L rule rd i S j = S
  | 0, _ => rfl
  | j + 1, hj => by
    show addL (pairN nl L rule rd i S j) _ _ _ _ _ = S
    rw [h.pair hr hi hp hS j (by omega)]
    exact addL_no _ _ _ _ _ _ (fun t ht => hasF_stp hS (h.2 rule i j hr hi (by omega) hp t ht))
theorem singN_has {S : RSt} {m : Nat} (hf : (singN nl f L rule rd S m).2 = false) {i : Nat} (hi : i < m) : ∀ t ∈ oneL nl f rule (L.getD i r0 0) (L.getD i r0 1) (L.getD i r0 2), hasF (singN nl f L rule rd S m).1 t.1 t.2.1 t.2.2 = true := by
  intro t ht
  have st := singN_mono (nl := nl) (f := f) (L := L) (rule := rule) (rd := rd) S (i + 1) m (by omega)
  exact hasF_stp st (addL_has _ _ _ _ _ _ (st.nf hf) t ht)
theorem pairN_has {S : RSt} {i m : Nat} (hf : (pairN nl L rule rd i S m).2 = false) {k : Nat} (hk : k < m) : ∀ t ∈ twoL nl rule (L.getD i r0 0) (L.getD i r0 2) (L.getD k r0 0) (L.getD k r0 1) (L.getD k r0 2), hasF (pairN nl L rule rd i S m).1 t.1 t.2.1 t.2.2 = true := by
  intro t ht
  have st := pairN_mono (nl := nl) (L := L) (rule := rule) (rd := rd) i S (k + 1) m (by omega)
  exact hasF_stp st (addL_has _ _ _ _ _ _ (st.nf hf) t ht)
theorem pairsN_has {S : RSt} {m : Nat} (hf : (pairsN nl L rule rd S m).2 = false) {i k : Nat} (hi : i < m) (hk : k < L.length) (hp : L.getD i r0 1 = firstP rule) : ∀ t ∈ twoL nl rule (L.getD i r0 0) (L.getD i r0 2) (L.getD k r0 0) (L.getD k r0 1) (L.getD k r0 2), hasF (pairsN nl L rule rd S m).1 t.1 t.2.1 t.2.2 = true := by
  intro t ht
  have st := pairsN_mono (nl := nl) (L := L) (rule := rule) (rd := rd) S (i + 1) m (by omega)
  have e : pairsN nl L rule rd S (i + 1) = pairN nl L rule rd i (pairsN nl L rule rd S i) L.length := if_pos hp
  rw [e] at st
  exact hasF_stp st (pairN_has (st.nf hf) hk t ht)
theorem oneL_pair {s p o : Int32} (h : ¬ firstP rule = (-1)) : oneL nl f rule s p o = [] := by
  unfold firstP at h
  split at h <;> first | rfl | exact absurd rfl h
theorem round_done (hf : (roundN nl f L rd 14).2 = false) : DONE nl f L.length (roundN nl f L rd 14).1 := by
  have keep : ∀ i, i < L.length → (roundN nl f L rd 14).1.getD i r0 = L.getD i r0 := fun i hi => (roundN_mono (nl := nl) (f := f) (L := L) (rd := rd) 0 14 (by omega)).get hi
  refine ⟨fun rule i hr hi t ht => ?_, fun rule i k hr hi hk hp t ht => ?_⟩
  · rw [keep i hi] at ht
    have st := roundN_mono (nl := nl) (f := f) (L := L) (rd := rd) (rule + 1) 14 (by omega)
    refine hasF_stp st ?_
    by_cases c : firstP rule = (-1)
    · have e : roundN nl f L rd (rule + 1) = singN nl f L rule rd (roundN nl f L rd rule) L.length := if_pos c
      rw [e] at st ⊢
      exact singN_has (st.nf hf) hi t ht
    · rw [oneL_pair c] at ht
      cases ht
  · rw [keep i hi, keep k hk] at ht
    rw [keep i hi] at hp
    have st := roundN_mono (nl := nl) (f := f) (L := L) (rd := rd) (rule + 1) 14 (by omega)
    refine hasF_stp st ?_
    by_cases c : firstP rule = (-1)
    · exfalso
      have e : ∀ a b c' d e', twoL nl rule a b c' d e' = [] := fun a b c' d e' => by
        unfold firstP at c
        unfold twoL
        split at c <;> first | rfl | exact absurd c (by decide)
      rw [e] at ht
      cases ht
    · have e : roundN nl f L rd (rule + 1) = pairsN nl L rule rd (roundN nl f L rd rule) L.length := if_neg c
      rw [e] at st ⊢
      exact pairsN_has (st.nf hf) hi hk hp t ht
end RL
/-- the rounds: how many, and the rows; the answer is -1 where there are too many -/
def closeN (nl : Nat) (f : Nat → Int32) : Nat → Nat → List Row → RSt × Int32
  | 0, _, L => ((L, true), (-1))
  | t + 1, made, L => if (roundN nl f L (nI (made + 1)) 14).2 = true then (roundN nl f L (nI (made + 1)) 14, (-1))
    else if (roundN nl f L (nI (made + 1)) 14).1.length = L.length then (roundN nl f L (nI (made + 1)) 14, nI made)
    else closeN nl f t (made + 1) (roundN nl f L (nI (made + 1)) 14).1
def wantV (rule : Nat) (c d : Int32) : Int32 := if rule = 5 ∨ rule = 11 then d else c
theorem twoL_skip {nl rule : Nat} {c d : Int32} {b : Row} (hru : rule = 2 ∨ rule = 3 ∨ rule = 5 ∨ rule = 7 ∨ rule = 9 ∨ rule = 11) (h : ¬ b (setP rule) = wantV rule c d) : twoL nl rule c d (b 0) (b 1) (b 2) = [] := by
  rcases hru with rfl | rfl | rfl | rfl | rfl | rfl
  · exact if_neg (fun e => h e)
  · exact if_neg (fun e => h e)
  · exact if_neg (fun e => h e.2)
  · exact if_neg (fun e => h e.1)
  · exact if_neg (fun e => h e.2)
  · exact if_neg (fun e => h e.2)
end
section
set_option maxHeartbeats 4000000 in
set_option maxRecDepth 100000 in
theorem l_X2_applyToSingles {X : zX} (hr ht : Nat) (sp en : Nat) (rd : Int32) (rule : Nat) (ta nl : Nat) (hnl : nl ≤ 40) (tf : Nat → Int32) (h : Nat) (a : Nat → Nat) (am : Int32) (S : RSt) (L : List Row) (hL : L.length = en) (hS : stp (L, false) S) (hru : rule = 0 ∨ rule = 1 ∨ rule = 4 ∨ rule = 6 ∨ rule = 8 ∨ rule = 10 ∨ rule = 12 ∨ rule = 13) (C : zC X cX2_applyToSingles 2 RX2 wsX2_applyToSingles ({ frames := 4, cells := 0, slots := 0, locals := 100 } : Room)) (E : zE X none 0 0 (fun v w1 => ∃ (F1 : Nat → Nat → Int32) (n1 : Nat) (o1 : Bool) (x1 : Int32), rowsRep F1 n1 o1 (singN nl tf L rule rd S en) ∧ v = none ∧ w1 = [(hr, .inr (2, [.ref ht, .ref h, .int (nI sp), .int (nI en), .int rd, .int (nI rule), .int x1, .int (-1)])), (ht, .inr (4, [.ref ta, .int (nI nl)])), (ta, .inl (X.cI, 40, .inl tf)), (h, .inr (3, [.ref (a 0), .ref (a 1), .ref (a 2), .ref (a 3), .ref (a 4), .ref (a 5), .ref (a 6), .ref (a 7), .ref (a 8), .int (nI n1), .int (zb o1), .int am])), (a 0, .inl (X.cI, 600, .inl (F1 0))), (a 1, .inl (X.cI, 600, .inl (F1 1))), (a 2, .inl (X.cI, 600, .inl (F1 2))), (a 3, .inl (X.cI, 600, .inl (F1 3))), (a 4, .inl (X.cI, 600, .inl (F1 4))), (a 5, .inl (X.cI, 600, .inl (F1 5))), (a 6, .inl (X.cI, 600, .inl (F1 6))), (a 7, .inl (X.cI, 1024, .inl (F1 7))), (a 8, .inl (X.cZ, 600, .inl (F1 8)))])) : ∀ (m : Nat) (i : Nat) (F : Nat → Nat → Int32) (n : Nat) (ov : Bool) (x1 : Int32), sp ≤ i → i ≤ en → en < i + m → rowsRep F n ov (singN nl tf L rule rd S i) → zW X 2 [(hr, .inr (2, [.ref ht, .ref h, .int (nI sp), .int (nI en), .int rd, .int (nI rule), .int x1, .int (-1)])), (ht, .inr (4, [.ref ta, .int (nI nl)])), (ta, .inl (X.cI, 40, .inl tf)), (h, .inr (3, [.ref (a 0), .ref (a 1), .ref (a 2), .ref (a 3), .ref (a 4), .ref (a 5), .ref (a 6), .ref (a 7), .ref (a 8), .int (nI n), .int (zb ov), .int am])), (a 0, .inl (X.cI, 600, .inl (F 0))), (a 1, .inl (X.cI, 600, .inl (F 1))), (a 2, .inl (X.cI, 600, .inl (F 2))), (a 3, .inl (X.cI, 600, .inl (F 3))), (a 4, .inl (X.cI, 600, .inl (F 4))), (a 5, .inl (X.cI, 600, .inl (F 5))), (a 6, .inl (X.cI, 600, .inl (F 6))), (a 7, .inl (X.cI, 1024, .inl (F 7))), (a 8, .inl (X.cZ, 600, .inl (F 8)))] 0 0 10 [(0, .ref hr), (1, .int (nI i))] [] := by
  have hiX2 : ∀ w ∈ u_ws RX2 TX2 8, w ∈ wsX2_applyToSingles := by decide +kernel
  have hiX3 : ∀ w ∈ u_ws RX3 TX3 12, w ∈ wsX2_applyToSingles := by decide +kernel
  have hf15 : Cond.fieldLink RX2 15 "RdfsRules$Reasoner" "end" "I" ∈ wsX2_applyToSingles := by decide +kernel
  have hf24 : Cond.fieldLink RX2 24 "RdfsRules$Reasoner" "first" "I" ∈ wsX2_applyToSingles := by decide +kernel
  have hf34 : Cond.fieldLink RX2 34 "RdfsRules$Reasoner" "rows" "LRdfsRules$Rows;" ∈ wsX2_applyToSingles := by decide +kernel
  have hf57 : Cond.fieldLink RX2 57 "RdfsRules$Rows" "subjects" "[I" ∈ wsX2_applyToSingles := by decide +kernel
  have hf61 : Cond.fieldLink RX2 61 "RdfsRules$Rows" "objects" "[I" ∈ wsX2_applyToSingles := by decide +kernel
  have hf64 : Cond.fieldLink RX2 64 "RdfsRules$Rows" "properties" "[I" ∈ wsX2_applyToSingles := by decide +kernel
  intro m
  induction m with
  | zero =>
    intro i F n ov x1 hsi hi hm hR
    exfalso
    omega
  | succ m ih =>
    intro i F n ov x1 hsi hi hm hR
    have hst := hS.tr (singN_stp (nl := nl) (f := tf) (L := L) (rule := rule) (rd := rd) S i)
    have hle := hst.len
    have hnn := hR.1
    have hn6 := hR.le
    have hen : en ≤ n := by rw [← hL, ← hnn]; exact hle
    refine z_iload_n (q := 11) C 1 rfl rfl dX2_applyToSingles_10 rfl ?_
    refine z_aload_n (q := 12) C 0 rfl rfl dX2_applyToSingles_11 rfl ?_
    refine z_get (q := 15) (v := .int (nI en)) C hiX2 0 3 rfl rfl (by decide) hf15 rfl dX2_applyToSingles_12 rfl ?_
    refine z_icmp_ge_n (q := 18) (tgt := 60) C (by omega) (by omega) dX2_applyToSingles_15 (by decide) rfl (fun c15 => ?_) (fun c15 => ?_)
    · skip
      refine z_vret C E (by omega) (by omega) dX2_applyToSingles_60 ?_
      obtain rfl : i = en := by omega
      exact ⟨F, n, ov, x1, hR, rfl, rfl⟩
    · skip
      refine z_aload_n (q := 19) C 0 rfl rfl dX2_applyToSingles_18 rfl ?_
      refine z_iload_n (q := 20) C 1 rfl rfl dX2_applyToSingles_19 rfl ?_
      refine z_put (q := 23) (ws' := [(hr, .inr (2, [.ref ht, .ref h, .int (nI sp), .int (nI en), .int rd, .int (nI rule), .int (nI i), .int (-1)])), (ht, .inr (4, [.ref ta, .int (nI nl)])), (ta, .inl (X.cI, 40, .inl tf)), (h, .inr (3, [.ref (a 0), .ref (a 1), .ref (a 2), .ref (a 3), .ref (a 4), .ref (a 5), .ref (a 6), .ref (a 7), .ref (a 8), .int (nI n), .int (zb ov), .int am])), (a 0, .inl (X.cI, 600, .inl (F 0))), (a 1, .inl (X.cI, 600, .inl (F 1))), (a 2, .inl (X.cI, 600, .inl (F 2))), (a 3, .inl (X.cI, 600, .inl (F 3))), (a 4, .inl (X.cI, 600, .inl (F 4))), (a 5, .inl (X.cI, 600, .inl (F 5))), (a 6, .inl (X.cI, 600, .inl (F 6))), (a 7, .inl (X.cI, 1024, .inl (F 7))), (a 8, .inl (X.cZ, 600, .inl (F 8)))]) C hiX2 tyX2_ok nmX2 0 6 rfl rfl (by decide) hf24 rfl rfl rfl (Nat.le_of_ble_eq_true rfl) dX2_applyToSingles_20 rfl rfl ?_
      refine z_aload_n (q := 24) C 0 rfl rfl dX2_applyToSingles_23 rfl ?_
      refine z_aload_n (q := 25) C 0 rfl rfl dX2_applyToSingles_24 rfl ?_
      refine z_get (q := 28) (v := .ref h) C hiX2 0 1 rfl rfl (by decide) hf34 rfl dX2_applyToSingles_25 rfl ?_
      refine z_get (q := 31) (v := .ref (a 0)) C hiX3 3 0 rfl rfl (by decide) hf57 rfl dX2_applyToSingles_28 rfl ?_
      refine z_iload_n (q := 32) C 1 rfl rfl dX2_applyToSingles_31 rfl ?_
      refine z_iald (q := 33) C 4 rfl (i := i) (by omega) (by decide) dX2_applyToSingles_32 rfl ?_
      refine z_aload_n (q := 34) C 0 rfl rfl dX2_applyToSingles_33 rfl ?_
      refine z_get (q := 37) (v := .ref h) C hiX2 0 1 rfl rfl (by decide) hf34 rfl dX2_applyToSingles_34 rfl ?_
      refine z_get (q := 40) (v := .ref (a 1)) C hiX3 3 1 rfl rfl (by decide) hf64 rfl dX2_applyToSingles_37 rfl ?_
      refine z_iload_n (q := 41) C 1 rfl rfl dX2_applyToSingles_40 rfl ?_
      refine z_iald (q := 42) C 5 rfl (i := i) (by omega) (by decide) dX2_applyToSingles_41 rfl ?_
      refine z_aload_n (q := 43) C 0 rfl rfl dX2_applyToSingles_42 rfl ?_
      refine z_get (q := 46) (v := .ref h) C hiX2 0 1 rfl rfl (by decide) hf34 rfl dX2_applyToSingles_43 rfl ?_
      refine z_get (q := 49) (v := .ref (a 2)) C hiX3 3 2 rfl rfl (by decide) hf61 rfl dX2_applyToSingles_46 rfl ?_
      refine z_iload_n (q := 50) C 1 rfl rfl dX2_applyToSingles_49 rfl ?_
      refine z_iald (q := 51) C 6 rfl (i := i) (by omega) (by decide) dX2_applyToSingles_50 rfl ?_
      refine z_callV (q := 54) (n := 3) (As := [.int ((F 0) i), .int ((F 1) i), .int ((F 2) i)]) (rest := []) (wr := []) C (c_X2_makeOfOne X.l X.D X.2.1 hr ht sp en rd rule (nI i) (-1) ta nl hnl tf h a F n ov am (singN nl tf L rule rd S i) hR (F 0 i) (F 1 i) (F 2 i) hru) gX2_applyToSingles_X2_makeOfOne rfl rfl rfl (by decide +kernel) (by decide) ⟨by first | decide | omega, by first | decide | omega⟩ 0 2 rfl rfl [0, 1, 2, 3, 4, 5, 6, 7, 8, 9, 10, 11, 12] [] rfl rfl (by decide) (by decide) (by decide) rfl rfl (Nat.le_of_ble_eq_true rfl) dX2_applyToSingles_51 rfl (fun v w1 hp => ?_)
      obtain ⟨F1, n1, o1, hR1, rfl, rfl⟩ := hp
      show zW X 2 [(hr, .inr (2, [.ref ht, .ref h, .int (nI sp), .int (nI en), .int rd, .int (nI rule), .int (nI i), .int (-1)])), (ht, .inr (4, [.ref ta, .int (nI nl)])), (ta, .inl (X.cI, 40, .inl tf)), (h, .inr (3, [.ref (a 0), .ref (a 1), .ref (a 2), .ref (a 3), .ref (a 4), .ref (a 5), .ref (a 6), .ref (a 7), .ref (a 8), .int (nI n1), .int (zb o1), .int am])), (a 0, .inl (X.cI, 600, .inl (F1 0))), (a 1, .inl (X.cI, 600, .inl (F1 1))), (a 2, .inl (X.cI, 600, .inl (F1 2))), (a 3, .inl (X.cI, 600, .inl (F1 3))), (a 4, .inl (X.cI, 600, .inl (F1 4))), (a 5, .inl (X.cI, 600, .inl (F1 5))), (a 6, .inl (X.cI, 600, .inl (F1 6))), (a 7, .inl (X.cI, 1024, .inl (F1 7))), (a 8, .inl (X.cZ, 600, .inl (F1 8)))] _ _ 54 _ []
      refine z_iinc (q := 57) (v := nI (i + 1)) (lv' := [(1, .int (nI (i + 1))), (0, .ref hr)]) C 1 dX2_applyToSingles_54 rfl rfl (k_inc1 i) (by decide) rfl ?_
      refine z_goto (tgt := 10) C dX2_applyToSingles_57 (by decide) ?_
      refine z_lv [1, 0] rfl ?_
      exact ih (i + 1) F1 n1 o1 (nI i) (by omega) (by omega) (by omega) (by show rowsRep F1 n1 o1 (addL _ _ _ _ _ _); rw [hR.at (i := i) (j := 0) (by omega) (by omega), hR.at (i := i) (j := 1) (by omega) (by omega), hR.at (i := i) (j := 2) (by omega) (by omega), hst.get (i := i) (by show i < L.length; omega)] at hR1; exact hR1)

set_option maxHeartbeats 4000000 in
set_option maxRecDepth 100000 in
theorem c_X2_applyToSingles (l : Launch) (D : va_G) (g : ClassId × ClassId × ClassId) (hr ht : Nat) (sp en : Nat) (rd : Int32) (rule : Nat) (x y : Int32) (ta nl : Nat) (hnl : nl ≤ 40) (tf : Nat → Int32) (h : Nat) (a : Nat → Nat) (F : Nat → Nat → Int32) (n : Nat) (ov : Bool) (am : Int32) (S : RSt) (hR : rowsRep F n ov S) (L : List Row) (hL : L.length = en) (hS : stp (L, false) S) (hru : rule = 0 ∨ rule = 1 ∨ rule = 4 ∨ rule = 6 ∨ rule = 8 ∨ rule = 10 ∨ rule = 12 ∨ rule = 13) (hse : sp ≤ en) (hno : singN nl tf L rule rd S sp = S) : zM l yX2_applyToSingles wsX2_applyToSingles ({ frames := 4, cells := 0, slots := 0, locals := 100 } : Room) D g [.ref hr] [(hr, .inr (2, [.ref ht, .ref h, .int (nI sp), .int (nI en), .int rd, .int (nI rule), .int x, .int y])), (ht, .inr (4, [.ref ta, .int (nI nl)])), (ta, .inl (g.1, 40, .inl tf)), (h, .inr (3, [.ref (a 0), .ref (a 1), .ref (a 2), .ref (a 3), .ref (a 4), .ref (a 5), .ref (a 6), .ref (a 7), .ref (a 8), .int (nI n), .int (zb ov), .int am])), (a 0, .inl (g.1, 600, .inl (F 0))), (a 1, .inl (g.1, 600, .inl (F 1))), (a 2, .inl (g.1, 600, .inl (F 2))), (a 3, .inl (g.1, 600, .inl (F 3))), (a 4, .inl (g.1, 600, .inl (F 4))), (a 5, .inl (g.1, 600, .inl (F 5))), (a 6, .inl (g.1, 600, .inl (F 6))), (a 7, .inl (g.1, 1024, .inl (F 7))), (a 8, .inl (g.2.1, 600, .inl (F 8)))] 0 0 (fun v w1 => ∃ (F1 : Nat → Nat → Int32) (n1 : Nat) (o1 : Bool) (x1 : Int32), rowsRep F1 n1 o1 (singN nl tf L rule rd S en) ∧ v = none ∧ w1 = [(hr, .inr (2, [.ref ht, .ref h, .int (nI sp), .int (nI en), .int rd, .int (nI rule), .int x1, .int (-1)])), (ht, .inr (4, [.ref ta, .int (nI nl)])), (ta, .inl (g.1, 40, .inl tf)), (h, .inr (3, [.ref (a 0), .ref (a 1), .ref (a 2), .ref (a 3), .ref (a 4), .ref (a 5), .ref (a 6), .ref (a 7), .ref (a 8), .int (nI n1), .int (zb o1), .int am])), (a 0, .inl (g.1, 600, .inl (F1 0))), (a 1, .inl (g.1, 600, .inl (F1 1))), (a 2, .inl (g.1, 600, .inl (F1 2))), (a 3, .inl (g.1, 600, .inl (F1 3))), (a 4, .inl (g.1, 600, .inl (F1 4))), (a 5, .inl (g.1, 600, .inl (F1 5))), (a 6, .inl (g.1, 600, .inl (F1 6))), (a 7, .inl (g.1, 1024, .inl (F1 7))), (a 8, .inl (g.2.1, 600, .inl (F1 8)))]) := by
  refine z_met (cc := cX2_applyToSingles) (maxL := 2) (ret := none) (lv := [(0, .ref hr)]) (by decide) rfl (Nat.le_of_ble_eq_true rfl) rfl ?_
  intro X hXD hXg hXl hnm C E
  subst hXD hXg hXl
  have C : zC X cX2_applyToSingles 2 RX2 wsX2_applyToSingles ({ frames := 4, cells := 0, slots := 0, locals := 100 } : Room) := C
  have hiX2 : ∀ w ∈ u_ws RX2 TX2 8, w ∈ wsX2_applyToSingles := by decide +kernel
  have hf9 : Cond.fieldLink RX2 9 "RdfsRules$Reasoner" "spent" "I" ∈ wsX2_applyToSingles := by decide +kernel
  have hf27 : Cond.fieldLink RX2 27 "RdfsRules$Reasoner" "second" "I" ∈ wsX2_applyToSingles := by decide +kernel
  have hn6 := hR.le
  refine z_aload_n (q := 1) C 0 rfl rfl dX2_applyToSingles_0 rfl ?_
  refine z_iconst (q := 2) C k_iconst_m1 dX2_applyToSingles_1 rfl ?_
  refine z_put (q := 5) (ws' := [(hr, .inr (2, [.ref ht, .ref h, .int (nI sp), .int (nI en), .int rd, .int (nI rule), .int x, .int (-1)])), (ht, .inr (4, [.ref ta, .int (nI nl)])), (ta, .inl (X.cI, 40, .inl tf)), (h, .inr (3, [.ref (a 0), .ref (a 1), .ref (a 2), .ref (a 3), .ref (a 4), .ref (a 5), .ref (a 6), .ref (a 7), .ref (a 8), .int (nI n), .int (zb ov), .int am])), (a 0, .inl (X.cI, 600, .inl (F 0))), (a 1, .inl (X.cI, 600, .inl (F 1))), (a 2, .inl (X.cI, 600, .inl (F 2))), (a 3, .inl (X.cI, 600, .inl (F 3))), (a 4, .inl (X.cI, 600, .inl (F 4))), (a 5, .inl (X.cI, 600, .inl (F 5))), (a 6, .inl (X.cI, 600, .inl (F 6))), (a 7, .inl (X.cI, 1024, .inl (F 7))), (a 8, .inl (X.cZ, 600, .inl (F 8)))]) C hiX2 tyX2_ok nmX2 0 7 rfl rfl (by decide) hf27 rfl rfl rfl (Nat.le_of_ble_eq_true rfl) dX2_applyToSingles_2 rfl rfl ?_
  refine z_aload_n (q := 6) C 0 rfl rfl dX2_applyToSingles_5 rfl ?_
  refine z_get (q := 9) (v := .int (nI sp)) C hiX2 0 2 rfl rfl (by decide) hf9 rfl dX2_applyToSingles_6 rfl ?_
  refine z_istore_n (q := 10) (lv' := [(1, .int (nI sp)), (0, .ref hr)]) C rfl dX2_applyToSingles_9 rfl (by decide) rfl ?_
  refine z_lv [1, 0] rfl ?_
  exact l_X2_applyToSingles hr ht sp en rd rule ta nl hnl tf h a am S L hL hS hru C E (en + 1) sp F n ov x (Nat.le_refl _) hse (by omega) (by rw [hno]; exact hR)

set_option maxHeartbeats 4000000 in
set_option maxRecDepth 100000 in
theorem l_X2_applyToPairs_i {X : zX} (hr ht : Nat) (sp en : Nat) (rd : Int32) (rule : Nat) (ta nl : Nat) (hnl : nl ≤ 40) (h : Nat) (a : Nat → Nat) (am : Int32) (S : RSt) (L : List Row) (hL : L.length = en) (hS : stp (L, false) S) (hru : rule = 2 ∨ rule = 3 ∨ rule = 5 ∨ rule = 7 ∨ rule = 9 ∨ rule = 11) (i : Nat) (hi : i < en) (Si : RSt) (hSi : stp (L, false) Si) (hnext : ∀ (F : Nat → Nat → Int32) (n : Nat) (ov : Bool) (y1 : Int32), rowsRep F n ov (pairN nl L rule rd i Si en) → zW X 8 [(hr, .inr (2, [.ref ht, .ref h, .int (nI sp), .int (nI en), .int rd, .int (nI rule), .int (nI i), .int y1])), (ht, .inr (4, [.ref ta, .int (nI nl)])), (h, .inr (3, [.ref (a 0), .ref (a 1), .ref (a 2), .ref (a 3), .ref (a 4), .ref (a 5), .ref (a 6), .ref (a 7), .ref (a 8), .int (nI n), .int (zb ov), .int am])), (a 0, .inl (X.cI, 600, .inl (F 0))), (a 1, .inl (X.cI, 600, .inl (F 1))), (a 2, .inl (X.cI, 600, .inl (F 2))), (a 3, .inl (X.cI, 600, .inl (F 3))), (a 4, .inl (X.cI, 600, .inl (F 4))), (a 5, .inl (X.cI, 600, .inl (F 5))), (a 6, .inl (X.cI, 600, .inl (F 6))), (a 7, .inl (X.cI, 1024, .inl (F 7))), (a 8, .inl (X.cZ, 600, .inl (F 8)))] 0 0 172 [(0, .ref hr), (1, .int (firstP rule)), (2, .ref (a (setP rule))), (3, .int (nI i)), (4, .int (L.getD i r0 0)), (5, .int (L.getD i r0 2)), (6, .int (wantV rule (L.getD i r0 0) (L.getD i r0 2)))] []) (C : zC X cX2_applyToPairs 8 RX2 wsX2_applyToPairs ({ frames := 4, cells := 0, slots := 0, locals := 102 } : Room)) (E : zE X none 0 0 (fun v w1 => ∃ (F1 : Nat → Nat → Int32) (n1 : Nat) (o1 : Bool) (x1 y1 : Int32), rowsRep F1 n1 o1 (pairsN nl L rule rd S en) ∧ v = none ∧ w1 = [(hr, .inr (2, [.ref ht, .ref h, .int (nI sp), .int (nI en), .int rd, .int (nI rule), .int x1, .int y1])), (ht, .inr (4, [.ref ta, .int (nI nl)])), (h, .inr (3, [.ref (a 0), .ref (a 1), .ref (a 2), .ref (a 3), .ref (a 4), .ref (a 5), .ref (a 6), .ref (a 7), .ref (a 8), .int (nI n1), .int (zb o1), .int am])), (a 0, .inl (X.cI, 600, .inl (F1 0))), (a 1, .inl (X.cI, 600, .inl (F1 1))), (a 2, .inl (X.cI, 600, .inl (F1 2))), (a 3, .inl (X.cI, 600, .inl (F1 3))), (a 4, .inl (X.cI, 600, .inl (F1 4))), (a 5, .inl (X.cI, 600, .inl (F1 5))), (a 6, .inl (X.cI, 600, .inl (F1 6))), (a 7, .inl (X.cI, 1024, .inl (F1 7))), (a 8, .inl (X.cZ, 600, .inl (F1 8)))])) : ∀ (m : Nat) (k : Nat) (F : Nat → Nat → Int32) (n : Nat) (ov : Bool) (y1 : Int32), k ≤ en → en < k + m → rowsRep F n ov (pairN nl L rule rd i Si k) → zW X 8 [(hr, .inr (2, [.ref ht, .ref h, .int (nI sp), .int (nI en), .int rd, .int (nI rule), .int (nI i), .int y1])), (ht, .inr (4, [.ref ta, .int (nI nl)])), (h, .inr (3, [.ref (a 0), .ref (a 1), .ref (a 2), .ref (a 3), .ref (a 4), .ref (a 5), .ref (a 6), .ref (a 7), .ref (a 8), .int (nI n), .int (zb ov), .int am])), (a 0, .inl (X.cI, 600, .inl (F 0))), (a 1, .inl (X.cI, 600, .inl (F 1))), (a 2, .inl (X.cI, 600, .inl (F 2))), (a 3, .inl (X.cI, 600, .inl (F 3))), (a 4, .inl (X.cI, 600, .inl (F 4))), (a 5, .inl (X.cI, 600, .inl (F 5))), (a 6, .inl (X.cI, 600, .inl (F 6))), (a 7, .inl (X.cI, 1024, .inl (F 7))), (a 8, .inl (X.cZ, 600, .inl (F 8)))] 0 0 104 [(0, .ref hr), (1, .int (firstP rule)), (2, .ref (a (setP rule))), (3, .int (nI i)), (4, .int (L.getD i r0 0)), (5, .int (L.getD i r0 2)), (6, .int (wantV rule (L.getD i r0 0) (L.getD i r0 2))), (7, .int (nI k))] [] := by
  have hiX2 : ∀ w ∈ u_ws RX2 TX2 8, w ∈ wsX2_applyToPairs := by decide +kernel
  have hiX3 : ∀ w ∈ u_ws RX3 TX3 12, w ∈ wsX2_applyToPairs := by decide +kernel
  have hf15 : Cond.fieldLink RX2 15 "RdfsRules$Reasoner" "end" "I" ∈ wsX2_applyToPairs := by decide +kernel
  have hf27 : Cond.fieldLink RX2 27 "RdfsRules$Reasoner" "second" "I" ∈ wsX2_applyToPairs := by decide +kernel
  have hf34 : Cond.fieldLink RX2 34 "RdfsRules$Reasoner" "rows" "LRdfsRules$Rows;" ∈ wsX2_applyToPairs := by decide +kernel
  have hf57 : Cond.fieldLink RX2 57 "RdfsRules$Rows" "subjects" "[I" ∈ wsX2_applyToPairs := by decide +kernel
  have hf61 : Cond.fieldLink RX2 61 "RdfsRules$Rows" "objects" "[I" ∈ wsX2_applyToPairs := by decide +kernel
  have hf64 : Cond.fieldLink RX2 64 "RdfsRules$Rows" "properties" "[I" ∈ wsX2_applyToPairs := by decide +kernel
  intro m
  induction m with
  | zero =>
    intro k F n ov y1 hk hm hR
    exfalso
    omega
  | succ m ih =>
    intro k F n ov y1 hk hm hR
    have hst := hSi.tr (pairN_stp (nl := nl) (L := L) (rule := rule) (rd := rd) i Si k)
    have hle := hst.len
    have hnn := hR.1
    have hn6 := hR.le
    have hen : en ≤ n := by rw [← hL, ← hnn]; exact hle
    refine z_iload (q := 106) C 7 rfl dX2_applyToPairs_104 rfl ?_
    refine z_aload_n (q := 107) C 0 rfl rfl dX2_applyToPairs_106 rfl ?_
    refine z_get (q := 110) (v := .int (nI en)) C hiX2 0 3 rfl rfl (by decide) hf15 rfl dX2_applyToPairs_107 rfl ?_
    refine z_icmp_ge_n (q := 113) (tgt := 172) C (by omega) (by omega) dX2_applyToPairs_110 (by decide) rfl (fun c110 => ?_) (fun c110 => ?_)
    · skip
      obtain rfl : k = en := by omega
      refine z_lv [0, 1, 2, 3, 4, 5, 6] rfl ?_
      exact hnext F n ov y1 hR
    · skip
      refine z_aload_n (q := 114) C 2 rfl rfl dX2_applyToPairs_113 rfl ?_
      refine z_iload (q := 116) C 7 rfl dX2_applyToPairs_114 rfl ?_
      refine z_iald (q := 117) C (3 + setP rule) (a := a (setP rule)) (n := 600) (f := F (setP rule)) (by rcases hru with rfl | rfl | rfl | rfl | rfl | rfl <;> rfl) (i := k) (by omega) (by decide) dX2_applyToPairs_116 rfl ?_
      refine z_iload (q := 119) C 6 rfl dX2_applyToPairs_117 rfl ?_
      refine z_icmp_ne (q := 122) (tgt := 166) C dX2_applyToPairs_119 (by decide) rfl (fun c119 => ?_) (fun c119 => ?_)
      · skip
        refine z_iinc (q := 169) (v := nI (k + 1)) (lv' := [(7, .int (nI (k + 1))), (0, .ref hr), (1, .int (firstP rule)), (2, .ref (a (setP rule))), (3, .int (nI i)), (4, .int (L.getD i r0 0)), (5, .int (L.getD i r0 2)), (6, .int (wantV rule (L.getD i r0 0) (L.getD i r0 2)))]) C 7 dX2_applyToPairs_166 rfl rfl (k_inc1 k) (by decide) rfl ?_
        refine z_goto (tgt := 104) C dX2_applyToPairs_169 (by decide) ?_
        refine z_lv [1, 2, 3, 4, 5, 6, 7, 0] rfl ?_
        exact ih (k + 1) F n ov y1 (by omega) (by omega) (by show rowsRep F n ov (addL _ _ _ _ _ _); rw [twoL_skip (b := L.getD k r0) hru (fun e => c119 (by rw [hR.at (i := k) (j := setP rule) (by omega) (by rcases hru with rfl | rfl | rfl | rfl | rfl | rfl <;> decide), hst.get (i := k) (by show k < L.length; omega)]; exact e))]; exact hR)
      · skip
        refine z_aload_n (q := 123) C 0 rfl rfl dX2_applyToPairs_122 rfl ?_
        refine z_iload (q := 125) C 7 rfl dX2_applyToPairs_123 rfl ?_
        refine z_put (q := 128) (ws' := [(hr, .inr (2, [.ref ht, .ref h, .int (nI sp), .int (nI en), .int rd, .int (nI rule), .int (nI i), .int (nI k)])), (ht, .inr (4, [.ref ta, .int (nI nl)])), (h, .inr (3, [.ref (a 0), .ref (a 1), .ref (a 2), .ref (a 3), .ref (a 4), .ref (a 5), .ref (a 6), .ref (a 7), .ref (a 8), .int (nI n), .int (zb ov), .int am])), (a 0, .inl (X.cI, 600, .inl (F 0))), (a 1, .inl (X.cI, 600, .inl (F 1))), (a 2, .inl (X.cI, 600, .inl (F 2))), (a 3, .inl (X.cI, 600, .inl (F 3))), (a 4, .inl (X.cI, 600, .inl (F 4))), (a 5, .inl (X.cI, 600, .inl (F 5))), (a 6, .inl (X.cI, 600, .inl (F 6))), (a 7, .inl (X.cI, 1024, .inl (F 7))), (a 8, .inl (X.cZ, 600, .inl (F 8)))]) C hiX2 tyX2_ok nmX2 0 7 rfl rfl (by decide) hf27 rfl rfl rfl (Nat.le_of_ble_eq_true rfl) dX2_applyToPairs_125 rfl rfl ?_
        refine z_aload_n (q := 129) C 0 rfl rfl dX2_applyToPairs_128 rfl ?_
        refine z_iload (q := 131) C 4 rfl dX2_applyToPairs_129 rfl ?_
        refine z_iload (q := 133) C 5 rfl dX2_applyToPairs_131 rfl ?_
        refine z_aload_n (q := 134) C 0 rfl rfl dX2_applyToPairs_133 rfl ?_
        refine z_get (q := 137) (v := .ref h) C hiX2 0 1 rfl rfl (by decide) hf34 rfl dX2_applyToPairs_134 rfl ?_
        refine z_get (q := 140) (v := .ref (a 0)) C hiX3 2 0 rfl rfl (by decide) hf57 rfl dX2_applyToPairs_137 rfl ?_
        refine z_iload (q := 142) C 7 rfl dX2_applyToPairs_140 rfl ?_
        refine z_iald (q := 143) C 3 rfl (i := k) (by omega) (by decide) dX2_applyToPairs_142 rfl ?_
        refine z_aload_n (q := 144) C 0 rfl rfl dX2_applyToPairs_143 rfl ?_
        refine z_get (q := 147) (v := .ref h) C hiX2 0 1 rfl rfl (by decide) hf34 rfl dX2_applyToPairs_144 rfl ?_
        refine z_get (q := 150) (v := .ref (a 1)) C hiX3 2 1 rfl rfl (by decide) hf64 rfl dX2_applyToPairs_147 rfl ?_
        refine z_iload (q := 152) C 7 rfl dX2_applyToPairs_150 rfl ?_
        refine z_iald (q := 153) C 4 rfl (i := k) (by omega) (by decide) dX2_applyToPairs_152 rfl ?_
        refine z_aload_n (q := 154) C 0 rfl rfl dX2_applyToPairs_153 rfl ?_
        refine z_get (q := 157) (v := .ref h) C hiX2 0 1 rfl rfl (by decide) hf34 rfl dX2_applyToPairs_154 rfl ?_
        refine z_get (q := 160) (v := .ref (a 2)) C hiX3 2 2 rfl rfl (by decide) hf61 rfl dX2_applyToPairs_157 rfl ?_
        refine z_iload (q := 162) C 7 rfl dX2_applyToPairs_160 rfl ?_
        refine z_iald (q := 163) C 5 rfl (i := k) (by omega) (by decide) dX2_applyToPairs_162 rfl ?_
        refine z_callV (q := 166) (n := 5) (As := [.int (L.getD i r0 0), .int (L.getD i r0 2), .int ((F 0) k), .int ((F 1) k), .int ((F 2) k)]) (rest := []) (wr := []) C (c_X2_makeOfTwo X.l X.D X.2.1 hr ht sp en rd rule (nI i) (nI k) ta nl hnl h a F n ov am (pairN nl L rule rd i Si k) hR (L.getD i r0 0) (L.getD i r0 2) (F 0 k) (F 1 k) (F 2 k) hru) gX2_applyToPairs_X2_makeOfTwo rfl rfl rfl (by decide +kernel) (by decide) ⟨by first | decide | omega, by first | decide | omega⟩ 0 2 rfl rfl [0, 1, 2, 3, 4, 5, 6, 7, 8, 9, 10, 11] [] rfl rfl (by decide) (by decide) (by decide) rfl rfl (Nat.le_of_ble_eq_true rfl) dX2_applyToPairs_163 rfl (fun v w1 hp => ?_)
        obtain ⟨F1, n1, o1, hR1, rfl, rfl⟩ := hp
        show zW X 8 [(hr, .inr (2, [.ref ht, .ref h, .int (nI sp), .int (nI en), .int rd, .int (nI rule), .int (nI i), .int (nI k)])), (ht, .inr (4, [.ref ta, .int (nI nl)])), (h, .inr (3, [.ref (a 0), .ref (a 1), .ref (a 2), .ref (a 3), .ref (a 4), .ref (a 5), .ref (a 6), .ref (a 7), .ref (a 8), .int (nI n1), .int (zb o1), .int am])), (a 0, .inl (X.cI, 600, .inl (F1 0))), (a 1, .inl (X.cI, 600, .inl (F1 1))), (a 2, .inl (X.cI, 600, .inl (F1 2))), (a 3, .inl (X.cI, 600, .inl (F1 3))), (a 4, .inl (X.cI, 600, .inl (F1 4))), (a 5, .inl (X.cI, 600, .inl (F1 5))), (a 6, .inl (X.cI, 600, .inl (F1 6))), (a 7, .inl (X.cI, 1024, .inl (F1 7))), (a 8, .inl (X.cZ, 600, .inl (F1 8)))] _ _ 166 _ []
        refine z_iinc (q := 169) (v := nI (k + 1)) (lv' := [(7, .int (nI (k + 1))), (0, .ref hr), (1, .int (firstP rule)), (2, .ref (a (setP rule))), (3, .int (nI i)), (4, .int (L.getD i r0 0)), (5, .int (L.getD i r0 2)), (6, .int (wantV rule (L.getD i r0 0) (L.getD i r0 2)))]) C 7 dX2_applyToPairs_166 rfl rfl (k_inc1 k) (by decide) rfl ?_
        refine z_goto (tgt := 104) C dX2_applyToPairs_169 (by decide) ?_
        refine z_lv [1, 2, 3, 4, 5, 6, 7, 0] rfl ?_
        exact ih (k + 1) F1 n1 o1 (nI k) (by omega) (by omega) (by show rowsRep F1 n1 o1 (addL _ _ _ _ _ _); rw [hR.at (i := k) (j := 0) (by omega) (by omega), hR.at (i := k) (j := 1) (by omega) (by omega), hR.at (i := k) (j := 2) (by omega) (by omega), hst.get (i := k) (by show k < L.length; omega)] at hR1; exact hR1)

set_option maxHeartbeats 4000000 in
set_option maxRecDepth 100000 in
theorem l_X2_applyToPairs {X : zX} (hr ht : Nat) (sp en : Nat) (rd : Int32) (rule : Nat) (ta nl : Nat) (hnl : nl ≤ 40) (h : Nat) (a : Nat → Nat) (am : Int32) (S : RSt) (L : List Row) (hL : L.length = en) (hS : stp (L, false) S) (hru : rule = 2 ∨ rule = 3 ∨ rule = 5 ∨ rule = 7 ∨ rule = 9 ∨ rule = 11) (hse : sp ≤ en) (hno : ∀ i, i < sp → L.getD i r0 1 = firstP rule → pairN nl L rule rd i (pairsN nl L rule rd S i) sp = pairsN nl L rule rd S i) (hr14 : rule < 14) (C : zC X cX2_applyToPairs 8 RX2 wsX2_applyToPairs ({ frames := 4, cells := 0, slots := 0, locals := 102 } : Room)) (E : zE X none 0 0 (fun v w1 => ∃ (F1 : Nat → Nat → Int32) (n1 : Nat) (o1 : Bool) (x1 y1 : Int32), rowsRep F1 n1 o1 (pairsN nl L rule rd S en) ∧ v = none ∧ w1 = [(hr, .inr (2, [.ref ht, .ref h, .int (nI sp), .int (nI en), .int rd, .int (nI rule), .int x1, .int y1])), (ht, .inr (4, [.ref ta, .int (nI nl)])), (h, .inr (3, [.ref (a 0), .ref (a 1), .ref (a 2), .ref (a 3), .ref (a 4), .ref (a 5), .ref (a 6), .ref (a 7), .ref (a 8), .int (nI n1), .int (zb o1), .int am])), (a 0, .inl (X.cI, 600, .inl (F1 0))), (a 1, .inl (X.cI, 600, .inl (F1 1))), (a 2, .inl (X.cI, 600, .inl (F1 2))), (a 3, .inl (X.cI, 600, .inl (F1 3))), (a 4, .inl (X.cI, 600, .inl (F1 4))), (a 5, .inl (X.cI, 600, .inl (F1 5))), (a 6, .inl (X.cI, 600, .inl (F1 6))), (a 7, .inl (X.cI, 1024, .inl (F1 7))), (a 8, .inl (X.cZ, 600, .inl (F1 8)))])) : ∀ (m : Nat) (i : Nat) (F : Nat → Nat → Int32) (n : Nat) (ov : Bool) (x1 y1 : Int32), i ≤ en → en < i + m → rowsRep F n ov (pairsN nl L rule rd S i) → zW X 8 [(hr, .inr (2, [.ref ht, .ref h, .int (nI sp), .int (nI en), .int rd, .int (nI rule), .int x1, .int y1])), (ht, .inr (4, [.ref ta, .int (nI nl)])), (h, .inr (3, [.ref (a 0), .ref (a 1), .ref (a 2), .ref (a 3), .ref (a 4), .ref (a 5), .ref (a 6), .ref (a 7), .ref (a 8), .int (nI n), .int (zb ov), .int am])), (a 0, .inl (X.cI, 600, .inl (F 0))), (a 1, .inl (X.cI, 600, .inl (F 1))), (a 2, .inl (X.cI, 600, .inl (F 2))), (a 3, .inl (X.cI, 600, .inl (F 3))), (a 4, .inl (X.cI, 600, .inl (F 4))), (a 5, .inl (X.cI, 600, .inl (F 5))), (a 6, .inl (X.cI, 600, .inl (F 6))), (a 7, .inl (X.cI, 1024, .inl (F 7))), (a 8, .inl (X.cZ, 600, .inl (F 8)))] 0 0 12 [(0, .ref hr), (1, .int (firstP rule)), (2, .ref (a (setP rule))), (3, .int (nI i))] [] := by
  have hiX2 : ∀ w ∈ u_ws RX2 TX2 8, w ∈ wsX2_applyToPairs := by decide +kernel
  have hiX3 : ∀ w ∈ u_ws RX3 TX3 12, w ∈ wsX2_applyToPairs := by decide +kernel
  have hf9 : Cond.fieldLink RX2 9 "RdfsRules$Reasoner" "spent" "I" ∈ wsX2_applyToPairs := by decide +kernel
  have hf15 : Cond.fieldLink RX2 15 "RdfsRules$Reasoner" "end" "I" ∈ wsX2_applyToPairs := by decide +kernel
  have hf21 : Cond.fieldLink RX2 21 "RdfsRules$Reasoner" "maker" "I" ∈ wsX2_applyToPairs := by decide +kernel
  have hf24 : Cond.fieldLink RX2 24 "RdfsRules$Reasoner" "first" "I" ∈ wsX2_applyToPairs := by decide +kernel
  have hf34 : Cond.fieldLink RX2 34 "RdfsRules$Reasoner" "rows" "LRdfsRules$Rows;" ∈ wsX2_applyToPairs := by decide +kernel
  have hf57 : Cond.fieldLink RX2 57 "RdfsRules$Rows" "subjects" "[I" ∈ wsX2_applyToPairs := by decide +kernel
  have hf61 : Cond.fieldLink RX2 61 "RdfsRules$Rows" "objects" "[I" ∈ wsX2_applyToPairs := by decide +kernel
  have hf64 : Cond.fieldLink RX2 64 "RdfsRules$Rows" "properties" "[I" ∈ wsX2_applyToPairs := by decide +kernel
  intro m
  induction m with
  | zero =>
    intro i F n ov x1 y1 hi hm hR
    exfalso
    omega
  | succ m ih =>
    intro i F n ov x1 y1 hi hm hR
    have hst := hS.tr (pairsN_mono (nl := nl) (L := L) (rule := rule) (rd := rd) S 0 i (Nat.zero_le _))
    have hle := hst.len
    have hnn := hR.1
    have hn6 := hR.le
    have hen : en ≤ n := by rw [← hL, ← hnn]; exact hle
    refine z_iload_n (q := 13) C 3 rfl rfl dX2_applyToPairs_12 rfl ?_
    refine z_aload_n (q := 14) C 0 rfl rfl dX2_applyToPairs_13 rfl ?_
    refine z_get (q := 17) (v := .int (nI en)) C hiX2 0 3 rfl rfl (by decide) hf15 rfl dX2_applyToPairs_14 rfl ?_
    refine z_icmp_ge_n (q := 20) (tgt := 178) C (by omega) (by omega) dX2_applyToPairs_17 (by decide) rfl (fun c17 => ?_) (fun c17 => ?_)
    · skip
      refine z_vret C E (by omega) (by omega) dX2_applyToPairs_178 ?_
      obtain rfl : i = en := by omega
      exact ⟨F, n, ov, x1, y1, hR, rfl, rfl⟩
    · skip
      refine z_aload_n (q := 21) C 0 rfl rfl dX2_applyToPairs_20 rfl ?_
      refine z_get (q := 24) (v := .ref h) C hiX2 0 1 rfl rfl (by decide) hf34 rfl dX2_applyToPairs_21 rfl ?_
      refine z_get (q := 27) (v := .ref (a 1)) C hiX3 2 1 rfl rfl (by decide) hf64 rfl dX2_applyToPairs_24 rfl ?_
      refine z_iload_n (q := 28) C 3 rfl rfl dX2_applyToPairs_27 rfl ?_
      refine z_iald (q := 29) C 4 rfl (i := i) (by omega) (by decide) dX2_applyToPairs_28 rfl ?_
      refine z_iload_n (q := 30) C 1 rfl rfl dX2_applyToPairs_29 rfl ?_
      refine z_icmp_ne (q := 33) (tgt := 172) C dX2_applyToPairs_30 (by decide) rfl (fun c30 => ?_) (fun c30 => ?_)
      · skip
        refine z_iinc (q := 175) (v := nI (i + 1)) (lv' := [(3, .int (nI (i + 1))), (0, .ref hr), (1, .int (firstP rule)), (2, .ref (a (setP rule)))]) C 3 dX2_applyToPairs_172 rfl rfl (k_inc1 i) (by decide) rfl ?_
        refine z_goto (tgt := 12) C dX2_applyToPairs_175 (by decide) ?_
        refine z_lv [1, 2, 3, 0] rfl ?_
        exact ih (i + 1) F n ov x1 y1 (by omega) (by omega) (by rw [show pairsN nl L rule rd S (i + 1) = pairsN nl L rule rd S i from if_neg (fun e => c30 (by rw [← e, hR.at (i := i) (j := 1) (by omega) (by omega), hst.get (i := i) (by show i < L.length; omega)]))]; exact hR)
      · skip
        refine z_aload_n (q := 34) C 0 rfl rfl dX2_applyToPairs_33 rfl ?_
        refine z_iload_n (q := 35) C 3 rfl rfl dX2_applyToPairs_34 rfl ?_
        refine z_put (q := 38) (ws' := [(hr, .inr (2, [.ref ht, .ref h, .int (nI sp), .int (nI en), .int rd, .int (nI rule), .int (nI i), .int y1])), (ht, .inr (4, [.ref ta, .int (nI nl)])), (h, .inr (3, [.ref (a 0), .ref (a 1), .ref (a 2), .ref (a 3), .ref (a 4), .ref (a 5), .ref (a 6), .ref (a 7), .ref (a 8), .int (nI n), .int (zb ov), .int am])), (a 0, .inl (X.cI, 600, .inl (F 0))), (a 1, .inl (X.cI, 600, .inl (F 1))), (a 2, .inl (X.cI, 600, .inl (F 2))), (a 3, .inl (X.cI, 600, .inl (F 3))), (a 4, .inl (X.cI, 600, .inl (F 4))), (a 5, .inl (X.cI, 600, .inl (F 5))), (a 6, .inl (X.cI, 600, .inl (F 6))), (a 7, .inl (X.cI, 1024, .inl (F 7))), (a 8, .inl (X.cZ, 600, .inl (F 8)))]) C hiX2 tyX2_ok nmX2 0 6 rfl rfl (by decide) hf24 rfl rfl rfl (Nat.le_of_ble_eq_true rfl) dX2_applyToPairs_35 rfl rfl ?_
        refine z_aload_n (q := 39) C 0 rfl rfl dX2_applyToPairs_38 rfl ?_
        refine z_get (q := 42) (v := .ref h) C hiX2 0 1 rfl rfl (by decide) hf34 rfl dX2_applyToPairs_39 rfl ?_
        refine z_get (q := 45) (v := .ref (a 0)) C hiX3 2 0 rfl rfl (by decide) hf57 rfl dX2_applyToPairs_42 rfl ?_
        refine z_iload_n (q := 46) C 3 rfl rfl dX2_applyToPairs_45 rfl ?_
        refine z_iald (q := 47) C 3 rfl (i := i) (by omega) (by decide) dX2_applyToPairs_46 rfl ?_
        refine z_eqi (y := L.getD i r0 0) (by rw [hR.at (i := i) (j := 0) (by omega) (by omega), hst.get (i := i) (by show i < L.length; omega)]) ?_
        refine z_istore (q := 49) (lv' := [(4, .int (L.getD i r0 0)), (0, .ref hr), (1, .int (firstP rule)), (2, .ref (a (setP rule))), (3, .int (nI i))]) C dX2_applyToPairs_47 rfl (by decide) rfl ?_
        refine z_aload_n (q := 50) C 1 rfl rfl dX2_applyToPairs_49 rfl ?_
        refine z_get (q := 53) (v := .ref h) C hiX2 0 1 rfl rfl (by decide) hf34 rfl dX2_applyToPairs_50 rfl ?_
        refine z_get (q := 56) (v := .ref (a 2)) C hiX3 2 2 rfl rfl (by decide) hf61 rfl dX2_applyToPairs_53 rfl ?_
        refine z_iload_n (q := 57) C 4 rfl rfl dX2_applyToPairs_56 rfl ?_
        refine z_iald (q := 58) C 5 rfl (i := i) (by omega) (by decide) dX2_applyToPairs_57 rfl ?_
        refine z_eqi (y := L.getD i r0 2) (by rw [hR.at (i := i) (j := 2) (by omega) (by omega), hst.get (i := i) (by show i < L.length; omega)]) ?_
        refine z_istore (q := 60) (lv' := [(5, .int (L.getD i r0 2)), (4, .int (L.getD i r0 0)), (0, .ref hr), (1, .int (firstP rule)), (2, .ref (a (setP rule))), (3, .int (nI i))]) C dX2_applyToPairs_58 rfl (by decide) rfl ?_
        refine z_aload_n (q := 61) C 2 rfl rfl dX2_applyToPairs_60 rfl ?_
        refine z_get (q := 64) (v := .int (nI rule)) C hiX2 0 5 rfl rfl (by decide) hf21 rfl dX2_applyToPairs_61 rfl ?_
        refine z_iconst (q := 65) C k_iconst_5 dX2_applyToPairs_64 rfl ?_
        refine z_icmp_eq_n (q := 68) (tgt := 77) C (by omega) (by omega) dX2_applyToPairs_65 (by decide) rfl (fun c65 => ?_) (fun c65 => ?_)
        · skip
          refine z_iload (q := 79) C 0 rfl dX2_applyToPairs_77 rfl ?_
          refine z_goto (tgt := 84) C dX2_applyToPairs_79 (by decide) ?_
          refine z_eqi (y := wantV rule (L.getD i r0 0) (L.getD i r0 2)) ((if_pos (Or.inl c65)).symm) ?_
          refine z_istore (q := 86) (lv' := [(6, .int (wantV rule (L.getD i r0 0) (L.getD i r0 2))), (5, .int (L.getD i r0 2)), (4, .int (L.getD i r0 0)), (0, .ref hr), (1, .int (firstP rule)), (2, .ref (a (setP rule))), (3, .int (nI i))]) C dX2_applyToPairs_84 rfl (by decide) rfl ?_
          refine z_iload_n (q := 87) C 6 rfl rfl dX2_applyToPairs_86 rfl ?_
          refine z_aload_n (q := 88) C 3 rfl rfl dX2_applyToPairs_87 rfl ?_
          refine z_get (q := 91) (v := .int (nI sp)) C hiX2 0 2 rfl rfl (by decide) hf9 rfl dX2_applyToPairs_88 rfl ?_
          refine z_icmp_ge_n (q := 94) (tgt := 101) C (by omega) (by omega) dX2_applyToPairs_91 (by decide) rfl (fun c91 => ?_) (fun c91 => ?_)
          · skip
            refine z_iconst (q := 102) C k_iconst_0 dX2_applyToPairs_101 rfl ?_
            refine z_istore (q := 104) (lv' := [(7, .int (nI 0)), (6, .int (wantV rule (L.getD i r0 0) (L.getD i r0 2))), (5, .int (L.getD i r0 2)), (4, .int (L.getD i r0 0)), (0, .ref hr), (1, .int (firstP rule)), (2, .ref (a (setP rule))), (3, .int (nI i))]) C dX2_applyToPairs_102 rfl (by decide) rfl ?_
            refine z_lv [4, 5, 6, 7, 3, 2, 1, 0] rfl ?_
            have hpi : L.getD i r0 1 = firstP rule := by rw [← c30, hR.at (i := i) (j := 1) (by omega) (by omega), hst.get (i := i) (by show i < L.length; omega)]
            have hpe : pairsN nl L rule rd S (i + 1) = pairN nl L rule rd i (pairsN nl L rule rd S i) en := by rw [← hL]; exact if_pos hpi
            refine l_X2_applyToPairs_i hr ht sp en rd rule ta nl hnl h a am S L hL hS hru i (by omega) (pairsN nl L rule rd S i) hst (fun F n ov y1 hR => ?_) C E (en + 1) 0 F n ov y1 (by omega) (by omega) ?_
            · skip
              refine z_iinc (q := 175) (v := nI (i + 1)) (lv' := [(3, .int (nI (i + 1))), (0, .ref hr), (1, .int (firstP rule)), (2, .ref (a (setP rule))), (4, .int (L.getD i r0 0)), (5, .int (L.getD i r0 2)), (6, .int (wantV rule (L.getD i r0 0) (L.getD i r0 2)))]) C 3 dX2_applyToPairs_172 rfl rfl (k_inc1 i) (by decide) rfl ?_
              refine z_goto (tgt := 12) C dX2_applyToPairs_175 (by decide) ?_
              refine z_lv [1, 2, 3, 0] rfl ?_
              exact ih (i + 1) F n ov (nI i) y1 (by omega) (by omega) (by rw [hpe]; exact hR)
            · exact hR
          · skip
            refine z_aload_n (q := 95) C 3 rfl rfl dX2_applyToPairs_94 rfl ?_
            refine z_get (q := 98) (v := .int (nI sp)) C hiX2 0 2 rfl rfl (by decide) hf9 rfl dX2_applyToPairs_95 rfl ?_
            refine z_goto (tgt := 102) C dX2_applyToPairs_98 (by decide) ?_
            refine z_istore (q := 104) (lv' := [(7, .int (nI sp)), (6, .int (wantV rule (L.getD i r0 0) (L.getD i r0 2))), (5, .int (L.getD i r0 2)), (4, .int (L.getD i r0 0)), (0, .ref hr), (1, .int (firstP rule)), (2, .ref (a (setP rule))), (3, .int (nI i))]) C dX2_applyToPairs_102 rfl (by decide) rfl ?_
            refine z_lv [4, 5, 6, 7, 3, 2, 1, 0] rfl ?_
            have hpi : L.getD i r0 1 = firstP rule := by rw [← c30, hR.at (i := i) (j := 1) (by omega) (by omega), hst.get (i := i) (by show i < L.length; omega)]
            have hpe : pairsN nl L rule rd S (i + 1) = pairN nl L rule rd i (pairsN nl L rule rd S i) en := by rw [← hL]; exact if_pos hpi
            refine l_X2_applyToPairs_i hr ht sp en rd rule ta nl hnl h a am S L hL hS hru i (by omega) (pairsN nl L rule rd S i) hst (fun F n ov y1 hR => ?_) C E (en + 1) sp F n ov y1 (by omega) (by omega) ?_
            · skip
              refine z_iinc (q := 175) (v := nI (i + 1)) (lv' := [(3, .int (nI (i + 1))), (0, .ref hr), (1, .int (firstP rule)), (2, .ref (a (setP rule))), (4, .int (L.getD i r0 0)), (5, .int (L.getD i r0 2)), (6, .int (wantV rule (L.getD i r0 0) (L.getD i r0 2)))]) C 3 dX2_applyToPairs_172 rfl rfl (k_inc1 i) (by decide) rfl ?_
              refine z_goto (tgt := 12) C dX2_applyToPairs_175 (by decide) ?_
              refine z_lv [1, 2, 3, 0] rfl ?_
              exact ih (i + 1) F n ov (nI i) y1 (by omega) (by omega) (by rw [hpe]; exact hR)
            · rw [hno i c91 hpi]; exact hR
        · skip
          refine z_aload_n (q := 69) C 2 rfl rfl dX2_applyToPairs_68 rfl ?_
          refine z_get (q := 72) (v := .int (nI rule)) C hiX2 0 5 rfl rfl (by decide) hf21 rfl dX2_applyToPairs_69 rfl ?_
          refine z_bipush (q := 74) C k_bipush_11 dX2_applyToPairs_72 rfl ?_
          refine z_icmp_ne_n (q := 77) (tgt := 82) C (by omega) (by omega) dX2_applyToPairs_74 (by decide) rfl (fun c74 => ?_) (fun c74 => ?_)
          · skip
            refine z_iload (q := 84) C 1 rfl dX2_applyToPairs_82 rfl ?_
            refine z_eqi (y := wantV rule (L.getD i r0 0) (L.getD i r0 2)) ((if_neg (fun z => z.elim c65 c74)).symm) ?_
            refine z_istore (q := 86) (lv' := [(6, .int (wantV rule (L.getD i r0 0) (L.getD i r0 2))), (5, .int (L.getD i r0 2)), (4, .int (L.getD i r0 0)), (0, .ref hr), (1, .int (firstP rule)), (2, .ref (a (setP rule))), (3, .int (nI i))]) C dX2_applyToPairs_84 rfl (by decide) rfl ?_
            refine z_iload_n (q := 87) C 6 rfl rfl dX2_applyToPairs_86 rfl ?_
            refine z_aload_n (q := 88) C 3 rfl rfl dX2_applyToPairs_87 rfl ?_
            refine z_get (q := 91) (v := .int (nI sp)) C hiX2 0 2 rfl rfl (by decide) hf9 rfl dX2_applyToPairs_88 rfl ?_
            refine z_icmp_ge_n (q := 94) (tgt := 101) C (by omega) (by omega) dX2_applyToPairs_91 (by decide) rfl (fun c91 => ?_) (fun c91 => ?_)
            · skip
              refine z_iconst (q := 102) C k_iconst_0 dX2_applyToPairs_101 rfl ?_
              refine z_istore (q := 104) (lv' := [(7, .int (nI 0)), (6, .int (wantV rule (L.getD i r0 0) (L.getD i r0 2))), (5, .int (L.getD i r0 2)), (4, .int (L.getD i r0 0)), (0, .ref hr), (1, .int (firstP rule)), (2, .ref (a (setP rule))), (3, .int (nI i))]) C dX2_applyToPairs_102 rfl (by decide) rfl ?_
              refine z_lv [4, 5, 6, 7, 3, 2, 1, 0] rfl ?_
              have hpi : L.getD i r0 1 = firstP rule := by rw [← c30, hR.at (i := i) (j := 1) (by omega) (by omega), hst.get (i := i) (by show i < L.length; omega)]
              have hpe : pairsN nl L rule rd S (i + 1) = pairN nl L rule rd i (pairsN nl L rule rd S i) en := by rw [← hL]; exact if_pos hpi
              refine l_X2_applyToPairs_i hr ht sp en rd rule ta nl hnl h a am S L hL hS hru i (by omega) (pairsN nl L rule rd S i) hst (fun F n ov y1 hR => ?_) C E (en + 1) 0 F n ov y1 (by omega) (by omega) ?_
              · skip
                refine z_iinc (q := 175) (v := nI (i + 1)) (lv' := [(3, .int (nI (i + 1))), (0, .ref hr), (1, .int (firstP rule)), (2, .ref (a (setP rule))), (4, .int (L.getD i r0 0)), (5, .int (L.getD i r0 2)), (6, .int (wantV rule (L.getD i r0 0) (L.getD i r0 2)))]) C 3 dX2_applyToPairs_172 rfl rfl (k_inc1 i) (by decide) rfl ?_
                refine z_goto (tgt := 12) C dX2_applyToPairs_175 (by decide) ?_
                refine z_lv [1, 2, 3, 0] rfl ?_
                exact ih (i + 1) F n ov (nI i) y1 (by omega) (by omega) (by rw [hpe]; exact hR)
              · exact hR
            · skip
              refine z_aload_n (q := 95) C 3 rfl rfl dX2_applyToPairs_94 rfl ?_
              refine z_get (q := 98) (v := .int (nI sp)) C hiX2 0 2 rfl rfl (by decide) hf9 rfl dX2_applyToPairs_95 rfl ?_
              refine z_goto (tgt := 102) C dX2_applyToPairs_98 (by decide) ?_
              refine z_istore (q := 104) (lv' := [(7, .int (nI sp)), (6, .int (wantV rule (L.getD i r0 0) (L.getD i r0 2))), (5, .int (L.getD i r0 2)), (4, .int (L.getD i r0 0)), (0, .ref hr), (1, .int (firstP rule)), (2, .ref (a (setP rule))), (3, .int (nI i))]) C dX2_applyToPairs_102 rfl (by decide) rfl ?_
              refine z_lv [4, 5, 6, 7, 3, 2, 1, 0] rfl ?_
              have hpi : L.getD i r0 1 = firstP rule := by rw [← c30, hR.at (i := i) (j := 1) (by omega) (by omega), hst.get (i := i) (by show i < L.length; omega)]
              have hpe : pairsN nl L rule rd S (i + 1) = pairN nl L rule rd i (pairsN nl L rule rd S i) en := by rw [← hL]; exact if_pos hpi
              refine l_X2_applyToPairs_i hr ht sp en rd rule ta nl hnl h a am S L hL hS hru i (by omega) (pairsN nl L rule rd S i) hst (fun F n ov y1 hR => ?_) C E (en + 1) sp F n ov y1 (by omega) (by omega) ?_
              · skip
                refine z_iinc (q := 175) (v := nI (i + 1)) (lv' := [(3, .int (nI (i + 1))), (0, .ref hr), (1, .int (firstP rule)), (2, .ref (a (setP rule))), (4, .int (L.getD i r0 0)), (5, .int (L.getD i r0 2)), (6, .int (wantV rule (L.getD i r0 0) (L.getD i r0 2)))]) C 3 dX2_applyToPairs_172 rfl rfl (k_inc1 i) (by decide) rfl ?_
                refine z_goto (tgt := 12) C dX2_applyToPairs_175 (by decide) ?_
                refine z_lv [1, 2, 3, 0] rfl ?_
                exact ih (i + 1) F n ov (nI i) y1 (by omega) (by omega) (by rw [hpe]; exact hR)
              · rw [hno i c91 hpi]; exact hR
          · skip
            refine z_iload (q := 79) C 0 rfl dX2_applyToPairs_77 rfl ?_
            refine z_goto (tgt := 84) C dX2_applyToPairs_79 (by decide) ?_
            refine z_eqi (y := wantV rule (L.getD i r0 0) (L.getD i r0 2)) ((if_pos (Or.inr c74)).symm) ?_
            refine z_istore (q := 86) (lv' := [(6, .int (wantV rule (L.getD i r0 0) (L.getD i r0 2))), (5, .int (L.getD i r0 2)), (4, .int (L.getD i r0 0)), (0, .ref hr), (1, .int (firstP rule)), (2, .ref (a (setP rule))), (3, .int (nI i))]) C dX2_applyToPairs_84 rfl (by decide) rfl ?_
            refine z_iload_n (q := 87) C 6 rfl rfl dX2_applyToPairs_86 rfl ?_
            refine z_aload_n (q := 88) C 3 rfl rfl dX2_applyToPairs_87 rfl ?_
            refine z_get (q := 91) (v := .int (nI sp)) C hiX2 0 2 rfl rfl (by decide) hf9 rfl dX2_applyToPairs_88 rfl ?_
            refine z_icmp_ge_n (q := 94) (tgt := 101) C (by omega) (by omega) dX2_applyToPairs_91 (by decide) rfl (fun c91 => ?_) (fun c91 => ?_)
            · skip
              refine z_iconst (q := 102) C k_iconst_0 dX2_applyToPairs_101 rfl ?_
              refine z_istore (q := 104) (lv' := [(7, .int (nI 0)), (6, .int (wantV rule (L.getD i r0 0) (L.getD i r0 2))), (5, .int (L.getD i r0 2)), (4, .int (L.getD i r0 0)), (0, .ref hr), (1, .int (firstP rule)), (2, .ref (a (setP rule))), (3, .int (nI i))]) C dX2_applyToPairs_102 rfl (by decide) rfl ?_
              refine z_lv [4, 5, 6, 7, 3, 2, 1, 0] rfl ?_
              have hpi : L.getD i r0 1 = firstP rule := by rw [← c30, hR.at (i := i) (j := 1) (by omega) (by omega), hst.get (i := i) (by show i < L.length; omega)]
              have hpe : pairsN nl L rule rd S (i + 1) = pairN nl L rule rd i (pairsN nl L rule rd S i) en := by rw [← hL]; exact if_pos hpi
              refine l_X2_applyToPairs_i hr ht sp en rd rule ta nl hnl h a am S L hL hS hru i (by omega) (pairsN nl L rule rd S i) hst (fun F n ov y1 hR => ?_) C E (en + 1) 0 F n ov y1 (by omega) (by omega) ?_
              · skip
                refine z_iinc (q := 175) (v := nI (i + 1)) (lv' := [(3, .int (nI (i + 1))), (0, .ref hr), (1, .int (firstP rule)), (2, .ref (a (setP rule))), (4, .int (L.getD i r0 0)), (5, .int (L.getD i r0 2)), (6, .int (wantV rule (L.getD i r0 0) (L.getD i r0 2)))]) C 3 dX2_applyToPairs_172 rfl rfl (k_inc1 i) (by decide) rfl ?_
                refine z_goto (tgt := 12) C dX2_applyToPairs_175 (by decide) ?_
                refine z_lv [1, 2, 3, 0] rfl ?_
                exact ih (i + 1) F n ov (nI i) y1 (by omega) (by omega) (by rw [hpe]; exact hR)
              · exact hR
            · skip
              refine z_aload_n (q := 95) C 3 rfl rfl dX2_applyToPairs_94 rfl ?_
              refine z_get (q := 98) (v := .int (nI sp)) C hiX2 0 2 rfl rfl (by decide) hf9 rfl dX2_applyToPairs_95 rfl ?_
              refine z_goto (tgt := 102) C dX2_applyToPairs_98 (by decide) ?_
              refine z_istore (q := 104) (lv' := [(7, .int (nI sp)), (6, .int (wantV rule (L.getD i r0 0) (L.getD i r0 2))), (5, .int (L.getD i r0 2)), (4, .int (L.getD i r0 0)), (0, .ref hr), (1, .int (firstP rule)), (2, .ref (a (setP rule))), (3, .int (nI i))]) C dX2_applyToPairs_102 rfl (by decide) rfl ?_
              refine z_lv [4, 5, 6, 7, 3, 2, 1, 0] rfl ?_
              have hpi : L.getD i r0 1 = firstP rule := by rw [← c30, hR.at (i := i) (j := 1) (by omega) (by omega), hst.get (i := i) (by show i < L.length; omega)]
              have hpe : pairsN nl L rule rd S (i + 1) = pairN nl L rule rd i (pairsN nl L rule rd S i) en := by rw [← hL]; exact if_pos hpi
              refine l_X2_applyToPairs_i hr ht sp en rd rule ta nl hnl h a am S L hL hS hru i (by omega) (pairsN nl L rule rd S i) hst (fun F n ov y1 hR => ?_) C E (en + 1) sp F n ov y1 (by omega) (by omega) ?_
              · skip
                refine z_iinc (q := 175) (v := nI (i + 1)) (lv' := [(3, .int (nI (i + 1))), (0, .ref hr), (1, .int (firstP rule)), (2, .ref (a (setP rule))), (4, .int (L.getD i r0 0)), (5, .int (L.getD i r0 2)), (6, .int (wantV rule (L.getD i r0 0) (L.getD i r0 2)))]) C 3 dX2_applyToPairs_172 rfl rfl (k_inc1 i) (by decide) rfl ?_
                refine z_goto (tgt := 12) C dX2_applyToPairs_175 (by decide) ?_
                refine z_lv [1, 2, 3, 0] rfl ?_
                exact ih (i + 1) F n ov (nI i) y1 (by omega) (by omega) (by rw [hpe]; exact hR)
              · rw [hno i c91 hpi]; exact hR

set_option maxHeartbeats 4000000 in
set_option maxRecDepth 100000 in
theorem c_X2_applyToPairs (l : Launch) (D : va_G) (g : ClassId × ClassId × ClassId) (hr ht : Nat) (sp en : Nat) (rd : Int32) (rule : Nat) (x y : Int32) (ta nl : Nat) (hnl : nl ≤ 40) (h : Nat) (a : Nat → Nat) (F : Nat → Nat → Int32) (n : Nat) (ov : Bool) (am : Int32) (S : RSt) (hR : rowsRep F n ov S) (L : List Row) (hL : L.length = en) (hS : stp (L, false) S) (hru : rule = 2 ∨ rule = 3 ∨ rule = 5 ∨ rule = 7 ∨ rule = 9 ∨ rule = 11) (hse : sp ≤ en) (hno : ∀ i, i < sp → L.getD i r0 1 = firstP rule → pairN nl L rule rd i (pairsN nl L rule rd S i) sp = pairsN nl L rule rd S i) : zM l yX2_applyToPairs wsX2_applyToPairs ({ frames := 4, cells := 0, slots := 0, locals := 102 } : Room) D g [.ref hr] [(hr, .inr (2, [.ref ht, .ref h, .int (nI sp), .int (nI en), .int rd, .int (nI rule), .int x, .int y])), (ht, .inr (4, [.ref ta, .int (nI nl)])), (h, .inr (3, [.ref (a 0), .ref (a 1), .ref (a 2), .ref (a 3), .ref (a 4), .ref (a 5), .ref (a 6), .ref (a 7), .ref (a 8), .int (nI n), .int (zb ov), .int am])), (a 0, .inl (g.1, 600, .inl (F 0))), (a 1, .inl (g.1, 600, .inl (F 1))), (a 2, .inl (g.1, 600, .inl (F 2))), (a 3, .inl (g.1, 600, .inl (F 3))), (a 4, .inl (g.1, 600, .inl (F 4))), (a 5, .inl (g.1, 600, .inl (F 5))), (a 6, .inl (g.1, 600, .inl (F 6))), (a 7, .inl (g.1, 1024, .inl (F 7))), (a 8, .inl (g.2.1, 600, .inl (F 8)))] 0 0 (fun v w1 => ∃ (F1 : Nat → Nat → Int32) (n1 : Nat) (o1 : Bool) (x1 y1 : Int32), rowsRep F1 n1 o1 (pairsN nl L rule rd S en) ∧ v = none ∧ w1 = [(hr, .inr (2, [.ref ht, .ref h, .int (nI sp), .int (nI en), .int rd, .int (nI rule), .int x1, .int y1])), (ht, .inr (4, [.ref ta, .int (nI nl)])), (h, .inr (3, [.ref (a 0), .ref (a 1), .ref (a 2), .ref (a 3), .ref (a 4), .ref (a 5), .ref (a 6), .ref (a 7), .ref (a 8), .int (nI n1), .int (zb o1), .int am])), (a 0, .inl (g.1, 600, .inl (F1 0))), (a 1, .inl (g.1, 600, .inl (F1 1))), (a 2, .inl (g.1, 600, .inl (F1 2))), (a 3, .inl (g.1, 600, .inl (F1 3))), (a 4, .inl (g.1, 600, .inl (F1 4))), (a 5, .inl (g.1, 600, .inl (F1 5))), (a 6, .inl (g.1, 600, .inl (F1 6))), (a 7, .inl (g.1, 1024, .inl (F1 7))), (a 8, .inl (g.2.1, 600, .inl (F1 8)))]) := by
  refine z_met (cc := cX2_applyToPairs) (maxL := 8) (ret := none) (lv := [(0, .ref hr)]) (by decide) rfl (Nat.le_of_ble_eq_true rfl) rfl ?_
  intro X hXD hXg hXl hnm C E
  subst hXD hXg hXl
  have C : zC X cX2_applyToPairs 8 RX2 wsX2_applyToPairs ({ frames := 4, cells := 0, slots := 0, locals := 102 } : Room) := C
  have hn6 := hR.le
  have hr14 : rule < 14 := by omega
  refine z_aload_n (q := 1) C 0 rfl rfl dX2_applyToPairs_0 rfl ?_
  refine z_callV (q := 4) (n := 0) (As := []) (rest := []) (wr := [(ht, .inr (4, [.ref ta, .int (nI nl)])), (h, .inr (3, [.ref (a 0), .ref (a 1), .ref (a 2), .ref (a 3), .ref (a 4), .ref (a 5), .ref (a 6), .ref (a 7), .ref (a 8), .int (nI n), .int (zb ov), .int am])), (a 0, .inl (X.cI, 600, .inl (F 0))), (a 1, .inl (X.cI, 600, .inl (F 1))), (a 2, .inl (X.cI, 600, .inl (F 2))), (a 3, .inl (X.cI, 600, .inl (F 3))), (a 4, .inl (X.cI, 600, .inl (F 4))), (a 5, .inl (X.cI, 600, .inl (F 5))), (a 6, .inl (X.cI, 600, .inl (F 6))), (a 7, .inl (X.cI, 1024, .inl (F 7))), (a 8, .inl (X.cZ, 600, .inl (F 8)))]) C (c_X2_firstProperty X.l X.D X.2.1 hr ht h sp en rd rule x y (by omega)) gX2_applyToPairs_X2_firstProperty rfl rfl rfl (by decide +kernel) (by decide) ⟨by first | decide | omega, by first | decide | omega⟩ 0 2 rfl rfl [0] [1, 2, 3, 4, 5, 6, 7, 8, 9, 10, 11] rfl rfl (by decide) (by decide) (by decide) rfl rfl (Nat.le_of_ble_eq_true rfl) dX2_applyToPairs_1 rfl (fun v w1 hp => ?_)
  obtain ⟨rfl, rfl⟩ := hp
  show zW X 8 [(ht, .inr (4, [.ref ta, .int (nI nl)])), (h, .inr (3, [.ref (a 0), .ref (a 1), .ref (a 2), .ref (a 3), .ref (a 4), .ref (a 5), .ref (a 6), .ref (a 7), .ref (a 8), .int (nI n), .int (zb ov), .int am])), (a 0, .inl (X.cI, 600, .inl (F 0))), (a 1, .inl (X.cI, 600, .inl (F 1))), (a 2, .inl (X.cI, 600, .inl (F 2))), (a 3, .inl (X.cI, 600, .inl (F 3))), (a 4, .inl (X.cI, 600, .inl (F 4))), (a 5, .inl (X.cI, 600, .inl (F 5))), (a 6, .inl (X.cI, 600, .inl (F 6))), (a 7, .inl (X.cI, 1024, .inl (F 7))), (a 8, .inl (X.cZ, 600, .inl (F 8))), (hr, .inr (2, [.ref ht, .ref h, .int (nI sp), .int (nI en), .int rd, .int (nI rule), .int x, .int y]))] _ _ 4 _ [.int (firstP rule)]
  refine z_istore_n (q := 5) (lv' := [(1, .int (firstP rule)), (0, .ref hr)]) C rfl dX2_applyToPairs_4 rfl (by decide) rfl ?_
  refine z_aload_n (q := 6) C 1 rfl rfl dX2_applyToPairs_5 rfl ?_
  refine z_callV (q := 9) (n := 0) (As := []) (rest := []) (wr := [(ht, .inr (4, [.ref ta, .int (nI nl)])), (a 0, .inl (X.cI, 600, .inl (F 0))), (a 1, .inl (X.cI, 600, .inl (F 1))), (a 2, .inl (X.cI, 600, .inl (F 2))), (a 3, .inl (X.cI, 600, .inl (F 3))), (a 4, .inl (X.cI, 600, .inl (F 4))), (a 5, .inl (X.cI, 600, .inl (F 5))), (a 6, .inl (X.cI, 600, .inl (F 6))), (a 7, .inl (X.cI, 1024, .inl (F 7))), (a 8, .inl (X.cZ, 600, .inl (F 8)))]) C (c_X2_settledParts X.l X.D X.2.1 hr ht h a n ov am sp en rd rule x y hru) gX2_applyToPairs_X2_settledParts rfl rfl rfl (by decide +kernel) (by decide) ⟨by first | decide | omega, by first | decide | omega⟩ 0 2 rfl rfl [11, 1] [0, 2, 3, 4, 5, 6, 7, 8, 9, 10] rfl rfl (by decide) (by decide) (by decide) rfl rfl (Nat.le_of_ble_eq_true rfl) dX2_applyToPairs_6 rfl (fun v w1 hp => ?_)
  obtain ⟨rfl, rfl⟩ := hp
  show zW X 8 [(ht, .inr (4, [.ref ta, .int (nI nl)])), (a 0, .inl (X.cI, 600, .inl (F 0))), (a 1, .inl (X.cI, 600, .inl (F 1))), (a 2, .inl (X.cI, 600, .inl (F 2))), (a 3, .inl (X.cI, 600, .inl (F 3))), (a 4, .inl (X.cI, 600, .inl (F 4))), (a 5, .inl (X.cI, 600, .inl (F 5))), (a 6, .inl (X.cI, 600, .inl (F 6))), (a 7, .inl (X.cI, 1024, .inl (F 7))), (a 8, .inl (X.cZ, 600, .inl (F 8))), (hr, .inr (2, [.ref ht, .ref h, .int (nI sp), .int (nI en), .int rd, .int (nI rule), .int x, .int y])), (h, .inr (3, [.ref (a 0), .ref (a 1), .ref (a 2), .ref (a 3), .ref (a 4), .ref (a 5), .ref (a 6), .ref (a 7), .ref (a 8), .int (nI n), .int (zb ov), .int am]))] _ _ 9 _ [.ref (a (setP rule))]
  refine z_astore_n (q := 10) (lv' := [(2, .ref (a (setP rule))), (1, .int (firstP rule)), (0, .ref hr)]) C rfl dX2_applyToPairs_9 rfl (by decide) rfl ?_
  refine z_iconst (q := 11) C k_iconst_0 dX2_applyToPairs_10 rfl ?_
  refine z_istore_n (q := 12) (lv' := [(3, .int (nI 0)), (2, .ref (a (setP rule))), (1, .int (firstP rule)), (0, .ref hr)]) C rfl dX2_applyToPairs_11 rfl (by decide) rfl ?_
  refine z_lv [3, 2, 1, 0] rfl ?_
  refine z_ws (ws' := [(hr, .inr (2, [.ref ht, .ref h, .int (nI sp), .int (nI en), .int rd, .int (nI rule), .int x, .int y])), (ht, .inr (4, [.ref ta, .int (nI nl)])), (h, .inr (3, [.ref (a 0), .ref (a 1), .ref (a 2), .ref (a 3), .ref (a 4), .ref (a 5), .ref (a 6), .ref (a 7), .ref (a 8), .int (nI n), .int (zb ov), .int am])), (a 0, .inl (X.cI, 600, .inl (F 0))), (a 1, .inl (X.cI, 600, .inl (F 1))), (a 2, .inl (X.cI, 600, .inl (F 2))), (a 3, .inl (X.cI, 600, .inl (F 3))), (a 4, .inl (X.cI, 600, .inl (F 4))), (a 5, .inl (X.cI, 600, .inl (F 5))), (a 6, .inl (X.cI, 600, .inl (F 6))), (a 7, .inl (X.cI, 1024, .inl (F 7))), (a 8, .inl (X.cZ, 600, .inl (F 8)))]) [10, 0, 11, 1, 2, 3, 4, 5, 6, 7, 8, 9] (by decide) rfl ?_
  exact l_X2_applyToPairs hr ht sp en rd rule ta nl hnl h a am S L hL hS hru hse hno hr14 C E (en + 1) 0 F n ov x y (by omega) (by omega) hR
end
section
theorem firstP_pairs {r : Nat} (h : ¬ firstP r = (-1)) : r = 2 ∨ r = 3 ∨ r = 5 ∨ r = 7 ∨ r = 9 ∨ r = 11 := by
  unfold firstP at h
  split at h <;> first | omega | exact absurd rfl h
theorem firstP_sing {r : Nat} (hr : r < 14) (h : firstP r = (-1)) : r = 0 ∨ r = 1 ∨ r = 4 ∨ r = 6 ∨ r = 8 ∨ r = 10 ∨ r = 12 ∨ r = 13 := by
  have h2 : ¬ r = 2 := fun e => by subst e; exact absurd h (by decide)
  have h3 : ¬ r = 3 := fun e => by subst e; exact absurd h (by decide)
  have h5 : ¬ r = 5 := fun e => by subst e; exact absurd h (by decide)
  have h7 : ¬ r = 7 := fun e => by subst e; exact absurd h (by decide)
  have h9 : ¬ r = 9 := fun e => by subst e; exact absurd h (by decide)
  have h11 : ¬ r = 11 := fun e => by subst e; exact absurd h (by decide)
  omega
theorem closeN_full {nl : Nat} {f : Nat → Int32} {t made : Nat} {L : List Row} (h : (roundN nl f L (nI (made + 1)) 14).2 = true) : closeN nl f (t + 1) made L = (roundN nl f L (nI (made + 1)) 14, (-1)) := if_pos h
theorem closeN_end {nl : Nat} {f : Nat → Int32} {t made : Nat} {L : List Row} (h : (roundN nl f L (nI (made + 1)) 14).2 = false) (h2 : (roundN nl f L (nI (made + 1)) 14).1.length = L.length) : closeN nl f (t + 1) made L = (roundN nl f L (nI (made + 1)) 14, nI made) := by
  show (if _ then _ else _) = _
  rw [if_neg (by rw [h]; decide), if_pos h2]
theorem closeN_on {nl : Nat} {f : Nat → Int32} {t made : Nat} {L : List Row} (h : (roundN nl f L (nI (made + 1)) 14).2 = false) (h2 : ¬ (roundN nl f L (nI (made + 1)) 14).1.length = L.length) : closeN nl f (t + 1) made L = closeN nl f t (made + 1) (roundN nl f L (nI (made + 1)) 14).1 := by
  show (if _ then _ else _) = _
  rw [if_neg (by rw [h]; decide), if_neg h2]

set_option maxHeartbeats 4000000 in
set_option maxRecDepth 100000 in
theorem l_X2_close_r {X : zX} (hr ht : Nat) (ta nl : Nat) (hnl : nl ≤ 40) (tf : Nat → Int32) (h : Nat) (a : Nat → Nat) (am : Int32) (L1 : List Row) (made : Nat) (hmade : made ≤ 600) (L : List Row) (sp en : Nat) (hL : L.length = en) (hse : sp ≤ en) (hen : en ≤ 600) (hD : DONE nl tf sp L) (hnext : ∀ (F : Nat → Nat → Int32) (n : Nat) (ov : Bool) (mk x y : Int32), rowsRep F n ov (roundN nl tf L (nI (made + 1)) 14) → zW X 4 [(hr, .inr (2, [.ref ht, .ref h, .int (nI sp), .int (nI en), .int (nI (made + 1)), .int mk, .int x, .int y])), (ht, .inr (4, [.ref ta, .int (nI nl)])), (ta, .inl (X.cI, 40, .inl tf)), (h, .inr (3, [.ref (a 0), .ref (a 1), .ref (a 2), .ref (a 3), .ref (a 4), .ref (a 5), .ref (a 6), .ref (a 7), .ref (a 8), .int (nI n), .int (zb ov), .int am])), (a 0, .inl (X.cI, 600, .inl (F 0))), (a 1, .inl (X.cI, 600, .inl (F 1))), (a 2, .inl (X.cI, 600, .inl (F 2))), (a 3, .inl (X.cI, 600, .inl (F 3))), (a 4, .inl (X.cI, 600, .inl (F 4))), (a 5, .inl (X.cI, 600, .inl (F 5))), (a 6, .inl (X.cI, 600, .inl (F 6))), (a 7, .inl (X.cI, 1024, .inl (F 7))), (a 8, .inl (X.cZ, 600, .inl (F 8)))] 0 0 85 [(0, .ref hr), (1, .ref h), (2, .int (nI made))] []) (C : zC X cX2_close 4 RX2 wsX2_close ({ frames := 5, cells := 0, slots := 0, locals := 129 } : Room)) (E : zE X (some .int) 0 0 (fun v w1 => ∃ (F1 : Nat → Nat → Int32) (n1 : Nat) (o1 : Bool) (s1 e1 rd mk x y : Int32), rowsRep F1 n1 o1 (closeN nl tf 601 0 L1).1 ∧ v = some (.int (closeN nl tf 601 0 L1).2) ∧ w1 = [(hr, .inr (2, [.ref ht, .ref h, .int s1, .int e1, .int rd, .int mk, .int x, .int y])), (ht, .inr (4, [.ref ta, .int (nI nl)])), (ta, .inl (X.cI, 40, .inl tf)), (h, .inr (3, [.ref (a 0), .ref (a 1), .ref (a 2), .ref (a 3), .ref (a 4), .ref (a 5), .ref (a 6), .ref (a 7), .ref (a 8), .int (nI n1), .int (zb o1), .int am])), (a 0, .inl (X.cI, 600, .inl (F1 0))), (a 1, .inl (X.cI, 600, .inl (F1 1))), (a 2, .inl (X.cI, 600, .inl (F1 2))), (a 3, .inl (X.cI, 600, .inl (F1 3))), (a 4, .inl (X.cI, 600, .inl (F1 4))), (a 5, .inl (X.cI, 600, .inl (F1 5))), (a 6, .inl (X.cI, 600, .inl (F1 6))), (a 7, .inl (X.cI, 1024, .inl (F1 7))), (a 8, .inl (X.cZ, 600, .inl (F1 8)))])) : ∀ (m : Nat) (r : Nat) (F : Nat → Nat → Int32) (n : Nat) (ov : Bool) (mk x y : Int32), r ≤ 14 → 14 < r + m → rowsRep F n ov (roundN nl tf L (nI (made + 1)) r) → zW X 4 [(hr, .inr (2, [.ref ht, .ref h, .int (nI sp), .int (nI en), .int (nI (made + 1)), .int mk, .int x, .int y])), (ht, .inr (4, [.ref ta, .int (nI nl)])), (ta, .inl (X.cI, 40, .inl tf)), (h, .inr (3, [.ref (a 0), .ref (a 1), .ref (a 2), .ref (a 3), .ref (a 4), .ref (a 5), .ref (a 6), .ref (a 7), .ref (a 8), .int (nI n), .int (zb ov), .int am])), (a 0, .inl (X.cI, 600, .inl (F 0))), (a 1, .inl (X.cI, 600, .inl (F 1))), (a 2, .inl (X.cI, 600, .inl (F 2))), (a 3, .inl (X.cI, 600, .inl (F 3))), (a 4, .inl (X.cI, 600, .inl (F 4))), (a 5, .inl (X.cI, 600, .inl (F 5))), (a 6, .inl (X.cI, 600, .inl (F 6))), (a 7, .inl (X.cI, 1024, .inl (F 7))), (a 8, .inl (X.cZ, 600, .inl (F 8)))] 0 0 39 [(0, .ref hr), (1, .ref h), (2, .int (nI made)), (3, .int (nI r))] [] := by
  have hiX2 : ∀ w ∈ u_ws RX2 TX2 8, w ∈ wsX2_close := by decide +kernel
  have hf21 : Cond.fieldLink RX2 21 "RdfsRules$Reasoner" "maker" "I" ∈ wsX2_close := by decide +kernel
  have hf34 : Cond.fieldLink RX2 34 "RdfsRules$Reasoner" "rows" "LRdfsRules$Rows;" ∈ wsX2_close := by decide +kernel
  intro m
  induction m with
  | zero =>
    intro r F n ov mk x y hr14 hm hR
    exfalso
    omega
  | succ m ih =>
    intro r F n ov mk x y hr14 hm hR
    have hn6 := hR.le
    refine z_iload_n (q := 40) C 3 rfl rfl dX2_close_39 rfl ?_
    refine z_bipush (q := 42) C k_bipush_14 dX2_close_40 rfl ?_
    refine z_icmp_ge_n (q := 45) (tgt := 85) C (by omega) (by omega) dX2_close_42 (by decide) rfl (fun c42 => ?_) (fun c42 => ?_)
    · skip
      refine z_lv [0, 1, 2] rfl ?_
      obtain rfl : r = 14 := by omega
      exact hnext F n ov mk x y hR
    · skip
      refine z_aload_n (q := 46) C 0 rfl rfl dX2_close_45 rfl ?_
      refine z_get (q := 49) (v := .ref h) C hiX2 0 1 rfl rfl (by decide) hf34 rfl dX2_close_46 rfl ?_
      refine z_callV (q := 52) (n := 0) (As := []) (rest := []) (wr := [(hr, .inr (2, [.ref ht, .ref h, .int (nI sp), .int (nI en), .int (nI (made + 1)), .int mk, .int x, .int y])), (ht, .inr (4, [.ref ta, .int (nI nl)])), (ta, .inl (X.cI, 40, .inl tf)), (a 0, .inl (X.cI, 600, .inl (F 0))), (a 1, .inl (X.cI, 600, .inl (F 1))), (a 2, .inl (X.cI, 600, .inl (F 2))), (a 3, .inl (X.cI, 600, .inl (F 3))), (a 4, .inl (X.cI, 600, .inl (F 4))), (a 5, .inl (X.cI, 600, .inl (F 5))), (a 6, .inl (X.cI, 600, .inl (F 6))), (a 7, .inl (X.cI, 1024, .inl (F 7))), (a 8, .inl (X.cZ, 600, .inl (F 8)))]) C (c_X3_isOverfull X.l X.D X.2.1 h a n ov am) gX2_close_X3_isOverfull rfl rfl rfl (by decide +kernel) (by decide) ⟨by first | decide | omega, by first | decide | omega⟩ 0 3 rfl rfl [3] [0, 1, 2, 4, 5, 6, 7, 8, 9, 10, 11, 12] rfl rfl (by decide) (by decide) (by decide) rfl rfl (Nat.le_of_ble_eq_true rfl) dX2_close_49 rfl (fun v w1 hp => ?_)
      obtain ⟨rfl, rfl⟩ := hp
      show zW X 4 [(hr, .inr (2, [.ref ht, .ref h, .int (nI sp), .int (nI en), .int (nI (made + 1)), .int mk, .int x, .int y])), (ht, .inr (4, [.ref ta, .int (nI nl)])), (ta, .inl (X.cI, 40, .inl tf)), (a 0, .inl (X.cI, 600, .inl (F 0))), (a 1, .inl (X.cI, 600, .inl (F 1))), (a 2, .inl (X.cI, 600, .inl (F 2))), (a 3, .inl (X.cI, 600, .inl (F 3))), (a 4, .inl (X.cI, 600, .inl (F 4))), (a 5, .inl (X.cI, 600, .inl (F 5))), (a 6, .inl (X.cI, 600, .inl (F 6))), (a 7, .inl (X.cI, 1024, .inl (F 7))), (a 8, .inl (X.cZ, 600, .inl (F 8))), (h, .inr (3, [.ref (a 0), .ref (a 1), .ref (a 2), .ref (a 3), .ref (a 4), .ref (a 5), .ref (a 6), .ref (a 7), .ref (a 8), .int (nI n), .int (zb ov), .int am]))] _ _ 52 _ [.int (zb ov)]
      refine z_if_ne_b (q := 55) (tgt := 85) C dX2_close_52 (by decide) rfl (fun c52 => ?_) (fun c52 => ?_)
      · skip
        refine z_lv [0, 1, 2] rfl ?_
        refine z_ws (ws' := [(hr, .inr (2, [.ref ht, .ref h, .int (nI sp), .int (nI en), .int (nI (made + 1)), .int mk, .int x, .int y])), (ht, .inr (4, [.ref ta, .int (nI nl)])), (ta, .inl (X.cI, 40, .inl tf)), (h, .inr (3, [.ref (a 0), .ref (a 1), .ref (a 2), .ref (a 3), .ref (a 4), .ref (a 5), .ref (a 6), .ref (a 7), .ref (a 8), .int (nI n), .int (zb ov), .int am])), (a 0, .inl (X.cI, 600, .inl (F 0))), (a 1, .inl (X.cI, 600, .inl (F 1))), (a 2, .inl (X.cI, 600, .inl (F 2))), (a 3, .inl (X.cI, 600, .inl (F 3))), (a 4, .inl (X.cI, 600, .inl (F 4))), (a 5, .inl (X.cI, 600, .inl (F 5))), (a 6, .inl (X.cI, 600, .inl (F 6))), (a 7, .inl (X.cI, 1024, .inl (F 7))), (a 8, .inl (X.cZ, 600, .inl (F 8)))]) [0, 1, 2, 12, 3, 4, 5, 6, 7, 8, 9, 10, 11] (by decide) rfl ?_
        exact hnext F n ov mk x y (by rw [(roundN_mono (nl := nl) (f := tf) (L := L) (rd := nI (made + 1)) r 14 (by omega)).2 (by rw [hR.2.2.1]; exact c52)]; exact hR)
      · skip
        refine z_aload_n (q := 56) C 0 rfl rfl dX2_close_55 rfl ?_
        refine z_iload_n (q := 57) C 3 rfl rfl dX2_close_56 rfl ?_
        refine z_put (q := 60) (ws' := [(hr, .inr (2, [.ref ht, .ref h, .int (nI sp), .int (nI en), .int (nI (made + 1)), .int (nI r), .int x, .int y])), (ht, .inr (4, [.ref ta, .int (nI nl)])), (ta, .inl (X.cI, 40, .inl tf)), (a 0, .inl (X.cI, 600, .inl (F 0))), (a 1, .inl (X.cI, 600, .inl (F 1))), (a 2, .inl (X.cI, 600, .inl (F 2))), (a 3, .inl (X.cI, 600, .inl (F 3))), (a 4, .inl (X.cI, 600, .inl (F 4))), (a 5, .inl (X.cI, 600, .inl (F 5))), (a 6, .inl (X.cI, 600, .inl (F 6))), (a 7, .inl (X.cI, 1024, .inl (F 7))), (a 8, .inl (X.cZ, 600, .inl (F 8))), (h, .inr (3, [.ref (a 0), .ref (a 1), .ref (a 2), .ref (a 3), .ref (a 4), .ref (a 5), .ref (a 6), .ref (a 7), .ref (a 8), .int (nI n), .int (zb ov), .int am]))]) C hiX2 tyX2_ok nmX2 0 5 rfl rfl (by decide) hf21 rfl rfl rfl (Nat.le_of_ble_eq_true rfl) dX2_close_57 rfl rfl ?_
        refine z_aload_n (q := 61) C 0 rfl rfl dX2_close_60 rfl ?_
        refine z_callV (q := 64) (n := 0) (As := []) (rest := []) (wr := [(ht, .inr (4, [.ref ta, .int (nI nl)])), (ta, .inl (X.cI, 40, .inl tf)), (a 0, .inl (X.cI, 600, .inl (F 0))), (a 1, .inl (X.cI, 600, .inl (F 1))), (a 2, .inl (X.cI, 600, .inl (F 2))), (a 3, .inl (X.cI, 600, .inl (F 3))), (a 4, .inl (X.cI, 600, .inl (F 4))), (a 5, .inl (X.cI, 600, .inl (F 5))), (a 6, .inl (X.cI, 600, .inl (F 6))), (a 7, .inl (X.cI, 1024, .inl (F 7))), (a 8, .inl (X.cZ, 600, .inl (F 8))), (h, .inr (3, [.ref (a 0), .ref (a 1), .ref (a 2), .ref (a 3), .ref (a 4), .ref (a 5), .ref (a 6), .ref (a 7), .ref (a 8), .int (nI n), .int (zb ov), .int am]))]) C (c_X2_firstProperty X.l X.D X.2.1 hr ht h sp en (nI (made + 1)) r x y (by omega)) gX2_close_X2_firstProperty rfl rfl rfl (by decide +kernel) (by decide) ⟨by first | decide | omega, by first | decide | omega⟩ 0 2 rfl rfl [0] [1, 2, 3, 4, 5, 6, 7, 8, 9, 10, 11, 12] rfl rfl (by decide) (by decide) (by decide) rfl rfl (Nat.le_of_ble_eq_true rfl) dX2_close_61 rfl (fun v w1 hp => ?_)
        obtain ⟨rfl, rfl⟩ := hp
        show zW X 4 [(ht, .inr (4, [.ref ta, .int (nI nl)])), (ta, .inl (X.cI, 40, .inl tf)), (a 0, .inl (X.cI, 600, .inl (F 0))), (a 1, .inl (X.cI, 600, .inl (F 1))), (a 2, .inl (X.cI, 600, .inl (F 2))), (a 3, .inl (X.cI, 600, .inl (F 3))), (a 4, .inl (X.cI, 600, .inl (F 4))), (a 5, .inl (X.cI, 600, .inl (F 5))), (a 6, .inl (X.cI, 600, .inl (F 6))), (a 7, .inl (X.cI, 1024, .inl (F 7))), (a 8, .inl (X.cZ, 600, .inl (F 8))), (h, .inr (3, [.ref (a 0), .ref (a 1), .ref (a 2), .ref (a 3), .ref (a 4), .ref (a 5), .ref (a 6), .ref (a 7), .ref (a 8), .int (nI n), .int (zb ov), .int am])), (hr, .inr (2, [.ref ht, .ref h, .int (nI sp), .int (nI en), .int (nI (made + 1)), .int (nI r), .int x, .int y]))] _ _ 64 _ [.int (firstP r)]
        refine z_iconst (q := 65) C k_iconst_m1 dX2_close_64 rfl ?_
        refine z_icmp_ne (q := 68) (tgt := 75) C dX2_close_65 (by decide) rfl (fun c65 => ?_) (fun c65 => ?_)
        · skip
          refine z_aload_n (q := 76) C 0 rfl rfl dX2_close_75 rfl ?_
          refine z_callV (q := 79) (n := 0) (As := []) (rest := []) (wr := [(ta, .inl (X.cI, 40, .inl tf))]) C (c_X2_applyToPairs X.l X.D X.2.1 hr ht sp en (nI (made + 1)) r x y ta nl hnl h a F n ov am (roundN nl tf L (nI (made + 1)) r) hR L hL (roundN_mono (nl := nl) (f := tf) (L := L) (rd := nI (made + 1)) 0 r (by omega)) (firstP_pairs c65) hse (fun i hi hp => hD.pair (by omega) hi hp ((roundN_mono (nl := nl) (f := tf) (L := L) (rd := nI (made + 1)) 0 r (by omega)).tr (pairsN_mono _ 0 i (Nat.zero_le _))) sp (Nat.le_refl _))) gX2_close_X2_applyToPairs rfl rfl rfl (by decide +kernel) (by decide) ⟨by first | decide | omega, by first | decide | omega⟩ 0 2 rfl rfl [12, 0, 11, 2, 3, 4, 5, 6, 7, 8, 9, 10] [1] rfl rfl (by decide) (by decide) (by decide) rfl rfl (Nat.le_of_ble_eq_true rfl) dX2_close_76 rfl (fun v w1 hp => ?_)
          obtain ⟨F1, n1, o1, x1, y1, hR1, rfl, rfl⟩ := hp
          show zW X 4 [(ta, .inl (X.cI, 40, .inl tf)), (hr, .inr (2, [.ref ht, .ref h, .int (nI sp), .int (nI en), .int (nI (made + 1)), .int (nI r), .int x1, .int y1])), (ht, .inr (4, [.ref ta, .int (nI nl)])), (h, .inr (3, [.ref (a 0), .ref (a 1), .ref (a 2), .ref (a 3), .ref (a 4), .ref (a 5), .ref (a 6), .ref (a 7), .ref (a 8), .int (nI n1), .int (zb o1), .int am])), (a 0, .inl (X.cI, 600, .inl (F1 0))), (a 1, .inl (X.cI, 600, .inl (F1 1))), (a 2, .inl (X.cI, 600, .inl (F1 2))), (a 3, .inl (X.cI, 600, .inl (F1 3))), (a 4, .inl (X.cI, 600, .inl (F1 4))), (a 5, .inl (X.cI, 600, .inl (F1 5))), (a 6, .inl (X.cI, 600, .inl (F1 6))), (a 7, .inl (X.cI, 1024, .inl (F1 7))), (a 8, .inl (X.cZ, 600, .inl (F1 8)))] _ _ 79 _ []
          refine z_iinc (q := 82) (v := nI (r + 1)) (lv' := [(3, .int (nI (r + 1))), (0, .ref hr), (1, .ref h), (2, .int (nI made))]) C 3 dX2_close_79 rfl rfl (k_inc1 r) (by decide) rfl ?_
          refine z_goto (tgt := 39) C dX2_close_82 (by decide) ?_
          refine z_lv [1, 2, 3, 0] rfl ?_
          refine z_ws (ws' := [(hr, .inr (2, [.ref ht, .ref h, .int (nI sp), .int (nI en), .int (nI (made + 1)), .int (nI r), .int x1, .int y1])), (ht, .inr (4, [.ref ta, .int (nI nl)])), (ta, .inl (X.cI, 40, .inl tf)), (h, .inr (3, [.ref (a 0), .ref (a 1), .ref (a 2), .ref (a 3), .ref (a 4), .ref (a 5), .ref (a 6), .ref (a 7), .ref (a 8), .int (nI n1), .int (zb o1), .int am])), (a 0, .inl (X.cI, 600, .inl (F1 0))), (a 1, .inl (X.cI, 600, .inl (F1 1))), (a 2, .inl (X.cI, 600, .inl (F1 2))), (a 3, .inl (X.cI, 600, .inl (F1 3))), (a 4, .inl (X.cI, 600, .inl (F1 4))), (a 5, .inl (X.cI, 600, .inl (F1 5))), (a 6, .inl (X.cI, 600, .inl (F1 6))), (a 7, .inl (X.cI, 1024, .inl (F1 7))), (a 8, .inl (X.cZ, 600, .inl (F1 8)))]) [1, 2, 0, 3, 4, 5, 6, 7, 8, 9, 10, 11, 12] (by decide) rfl ?_
          exact ih (r + 1) F1 n1 o1 (nI r) x1 y1 (by omega) (by omega) (by show rowsRep F1 n1 o1 (ruleS _ _ _ _ _ _); unfold ruleS; rw [if_neg c65, hL]; exact hR1)
        · skip
          refine z_aload_n (q := 69) C 0 rfl rfl dX2_close_68 rfl ?_
          refine z_callV (q := 72) (n := 0) (As := []) (rest := []) (wr := []) C (c_X2_applyToSingles X.l X.D X.2.1 hr ht sp en (nI (made + 1)) r x y ta nl hnl tf h a F n ov am (roundN nl tf L (nI (made + 1)) r) hR L hL (roundN_mono (nl := nl) (f := tf) (L := L) (rd := nI (made + 1)) 0 r (by omega)) (firstP_sing (by omega) c65) hse (hD.sing (by omega) (roundN_mono (nl := nl) (f := tf) (L := L) (rd := nI (made + 1)) 0 r (by omega)) sp (Nat.le_refl _))) gX2_close_X2_applyToSingles rfl rfl rfl (by decide +kernel) (by decide) ⟨by first | decide | omega, by first | decide | omega⟩ 0 2 rfl rfl [12, 0, 1, 11, 2, 3, 4, 5, 6, 7, 8, 9, 10] [] rfl rfl (by decide) (by decide) (by decide) rfl rfl (Nat.le_of_ble_eq_true rfl) dX2_close_69 rfl (fun v w1 hp => ?_)
          obtain ⟨F1, n1, o1, x1, hR1, rfl, rfl⟩ := hp
          show zW X 4 [(hr, .inr (2, [.ref ht, .ref h, .int (nI sp), .int (nI en), .int (nI (made + 1)), .int (nI r), .int x1, .int (-1)])), (ht, .inr (4, [.ref ta, .int (nI nl)])), (ta, .inl (X.cI, 40, .inl tf)), (h, .inr (3, [.ref (a 0), .ref (a 1), .ref (a 2), .ref (a 3), .ref (a 4), .ref (a 5), .ref (a 6), .ref (a 7), .ref (a 8), .int (nI n1), .int (zb o1), .int am])), (a 0, .inl (X.cI, 600, .inl (F1 0))), (a 1, .inl (X.cI, 600, .inl (F1 1))), (a 2, .inl (X.cI, 600, .inl (F1 2))), (a 3, .inl (X.cI, 600, .inl (F1 3))), (a 4, .inl (X.cI, 600, .inl (F1 4))), (a 5, .inl (X.cI, 600, .inl (F1 5))), (a 6, .inl (X.cI, 600, .inl (F1 6))), (a 7, .inl (X.cI, 1024, .inl (F1 7))), (a 8, .inl (X.cZ, 600, .inl (F1 8)))] _ _ 72 _ []
          refine z_goto (tgt := 79) C dX2_close_72 (by decide) ?_
          refine z_iinc (q := 82) (v := nI (r + 1)) (lv' := [(3, .int (nI (r + 1))), (0, .ref hr), (1, .ref h), (2, .int (nI made))]) C 3 dX2_close_79 rfl rfl (k_inc1 r) (by decide) rfl ?_
          refine z_goto (tgt := 39) C dX2_close_82 (by decide) ?_
          refine z_lv [1, 2, 3, 0] rfl ?_
          exact ih (r + 1) F1 n1 o1 (nI r) x1 (-1) (by omega) (by omega) (by show rowsRep F1 n1 o1 (ruleS _ _ _ _ _ _); unfold ruleS; rw [if_pos c65, hL]; exact hR1)

set_option maxHeartbeats 4000000 in
set_option maxRecDepth 100000 in
theorem l_X2_close {X : zX} (hr ht : Nat) (ta nl : Nat) (hnl : nl ≤ 40) (tf : Nat → Int32) (h : Nat) (a : Nat → Nat) (am : Int32) (L1 : List Row) (C : zC X cX2_close 4 RX2 wsX2_close ({ frames := 5, cells := 0, slots := 0, locals := 129 } : Room)) (E : zE X (some .int) 0 0 (fun v w1 => ∃ (F1 : Nat → Nat → Int32) (n1 : Nat) (o1 : Bool) (s1 e1 rd mk x y : Int32), rowsRep F1 n1 o1 (closeN nl tf 601 0 L1).1 ∧ v = some (.int (closeN nl tf 601 0 L1).2) ∧ w1 = [(hr, .inr (2, [.ref ht, .ref h, .int s1, .int e1, .int rd, .int mk, .int x, .int y])), (ht, .inr (4, [.ref ta, .int (nI nl)])), (ta, .inl (X.cI, 40, .inl tf)), (h, .inr (3, [.ref (a 0), .ref (a 1), .ref (a 2), .ref (a 3), .ref (a 4), .ref (a 5), .ref (a 6), .ref (a 7), .ref (a 8), .int (nI n1), .int (zb o1), .int am])), (a 0, .inl (X.cI, 600, .inl (F1 0))), (a 1, .inl (X.cI, 600, .inl (F1 1))), (a 2, .inl (X.cI, 600, .inl (F1 2))), (a 3, .inl (X.cI, 600, .inl (F1 3))), (a 4, .inl (X.cI, 600, .inl (F1 4))), (a 5, .inl (X.cI, 600, .inl (F1 5))), (a 6, .inl (X.cI, 600, .inl (F1 6))), (a 7, .inl (X.cI, 1024, .inl (F1 7))), (a 8, .inl (X.cZ, 600, .inl (F1 8)))])) : ∀ (m : Nat) (made : Nat) (L : List Row) (F : Nat → Nat → Int32) (n sp : Nat) (e1 rd mk x y : Int32), made ≤ 601 → 601 < made + m → rowsRep F n false (L, false) → sp ≤ L.length → DONE nl tf sp L → made ≤ L.length → closeN nl tf (601 - made) made L = closeN nl tf 601 0 L1 → zW X 4 [(hr, .inr (2, [.ref ht, .ref h, .int (nI sp), .int e1, .int rd, .int mk, .int x, .int y])), (ht, .inr (4, [.ref ta, .int (nI nl)])), (ta, .inl (X.cI, 40, .inl tf)), (h, .inr (3, [.ref (a 0), .ref (a 1), .ref (a 2), .ref (a 3), .ref (a 4), .ref (a 5), .ref (a 6), .ref (a 7), .ref (a 8), .int (nI n), .int (zb false), .int am])), (a 0, .inl (X.cI, 600, .inl (F 0))), (a 1, .inl (X.cI, 600, .inl (F 1))), (a 2, .inl (X.cI, 600, .inl (F 2))), (a 3, .inl (X.cI, 600, .inl (F 3))), (a 4, .inl (X.cI, 600, .inl (F 4))), (a 5, .inl (X.cI, 600, .inl (F 5))), (a 6, .inl (X.cI, 600, .inl (F 6))), (a 7, .inl (X.cI, 1024, .inl (F 7))), (a 8, .inl (X.cZ, 600, .inl (F 8)))] 0 0 12 [(0, .ref hr), (1, .ref h), (2, .int (nI made))] [] := by
  have hiX2 : ∀ w ∈ u_ws RX2 TX2 8, w ∈ wsX2_close := by decide +kernel
  have hf9 : Cond.fieldLink RX2 9 "RdfsRules$Reasoner" "spent" "I" ∈ wsX2_close := by decide +kernel
  have hf15 : Cond.fieldLink RX2 15 "RdfsRules$Reasoner" "end" "I" ∈ wsX2_close := by decide +kernel
  have hf18 : Cond.fieldLink RX2 18 "RdfsRules$Reasoner" "round" "I" ∈ wsX2_close := by decide +kernel
  have hf34 : Cond.fieldLink RX2 34 "RdfsRules$Reasoner" "rows" "LRdfsRules$Rows;" ∈ wsX2_close := by decide +kernel
  intro m
  induction m with
  | zero =>
    intro made L F n sp e1 rd mk x y hmd hm hR hse hD hml hfin
    exfalso
    omega
  | succ m ih =>
    intro made L F n sp e1 rd mk x y hmd hm hR hse hD hml hfin
    have hn6 := hR.le
    have hn1 : L.length = n := hR.1
    refine z_iload_n (q := 13) C 2 rfl rfl dX2_close_12 rfl ?_
    refine z_sipush (q := 16) C k_sipush_600 dX2_close_13 rfl ?_
    refine z_icmp_gt_n (q := 19) (tgt := 127) C (by omega) (by omega) dX2_close_16 (by decide) rfl (fun c16 => ?_) (fun c16 => ?_)
    · skip
      exact absurd c16 (by omega)
    · skip
      refine z_aload_n (q := 20) C 0 rfl rfl dX2_close_19 rfl ?_
      refine z_iload_n (q := 21) C 2 rfl rfl dX2_close_20 rfl ?_
      refine z_iconst (q := 22) C k_iconst_1 dX2_close_21 rfl ?_
      refine z_iadd (q := 23) C dX2_close_22 rfl ?_
      refine z_eqi (y := nI (made + 1)) (nI_add made 1) ?_
      refine z_put (q := 26) (ws' := [(hr, .inr (2, [.ref ht, .ref h, .int (nI sp), .int e1, .int (nI (made + 1)), .int mk, .int x, .int y])), (ht, .inr (4, [.ref ta, .int (nI nl)])), (ta, .inl (X.cI, 40, .inl tf)), (h, .inr (3, [.ref (a 0), .ref (a 1), .ref (a 2), .ref (a 3), .ref (a 4), .ref (a 5), .ref (a 6), .ref (a 7), .ref (a 8), .int (nI n), .int (zb false), .int am])), (a 0, .inl (X.cI, 600, .inl (F 0))), (a 1, .inl (X.cI, 600, .inl (F 1))), (a 2, .inl (X.cI, 600, .inl (F 2))), (a 3, .inl (X.cI, 600, .inl (F 3))), (a 4, .inl (X.cI, 600, .inl (F 4))), (a 5, .inl (X.cI, 600, .inl (F 5))), (a 6, .inl (X.cI, 600, .inl (F 6))), (a 7, .inl (X.cI, 1024, .inl (F 7))), (a 8, .inl (X.cZ, 600, .inl (F 8)))]) C hiX2 tyX2_ok nmX2 0 4 rfl rfl (by decide) hf18 rfl rfl rfl (Nat.le_of_ble_eq_true rfl) dX2_close_23 rfl rfl ?_
      refine z_aload_n (q := 27) C 0 rfl rfl dX2_close_26 rfl ?_
      refine z_aload_n (q := 28) C 0 rfl rfl dX2_close_27 rfl ?_
      refine z_get (q := 31) (v := .ref h) C hiX2 0 1 rfl rfl (by decide) hf34 rfl dX2_close_28 rfl ?_
      refine z_callV (q := 34) (n := 0) (As := []) (rest := [.ref hr]) (wr := [(hr, .inr (2, [.ref ht, .ref h, .int (nI sp), .int e1, .int (nI (made + 1)), .int mk, .int x, .int y])), (ht, .inr (4, [.ref ta, .int (nI nl)])), (ta, .inl (X.cI, 40, .inl tf)), (a 0, .inl (X.cI, 600, .inl (F 0))), (a 1, .inl (X.cI, 600, .inl (F 1))), (a 2, .inl (X.cI, 600, .inl (F 2))), (a 3, .inl (X.cI, 600, .inl (F 3))), (a 4, .inl (X.cI, 600, .inl (F 4))), (a 5, .inl (X.cI, 600, .inl (F 5))), (a 6, .inl (X.cI, 600, .inl (F 6))), (a 7, .inl (X.cI, 1024, .inl (F 7))), (a 8, .inl (X.cZ, 600, .inl (F 8)))]) C (c_X3_size X.l X.D X.2.1 h a n false am) gX2_close_X3_size rfl rfl rfl (by decide +kernel) (by decide) ⟨by first | decide | omega, by first | decide | omega⟩ 0 3 rfl rfl [3] [0, 1, 2, 4, 5, 6, 7, 8, 9, 10, 11, 12] rfl rfl (by decide) (by decide) (by decide) rfl rfl (Nat.le_of_ble_eq_true rfl) dX2_close_31 rfl (fun v w1 hp => ?_)
      obtain ⟨rfl, rfl⟩ := hp
      show zW X 4 [(hr, .inr (2, [.ref ht, .ref h, .int (nI sp), .int e1, .int (nI (made + 1)), .int mk, .int x, .int y])), (ht, .inr (4, [.ref ta, .int (nI nl)])), (ta, .inl (X.cI, 40, .inl tf)), (a 0, .inl (X.cI, 600, .inl (F 0))), (a 1, .inl (X.cI, 600, .inl (F 1))), (a 2, .inl (X.cI, 600, .inl (F 2))), (a 3, .inl (X.cI, 600, .inl (F 3))), (a 4, .inl (X.cI, 600, .inl (F 4))), (a 5, .inl (X.cI, 600, .inl (F 5))), (a 6, .inl (X.cI, 600, .inl (F 6))), (a 7, .inl (X.cI, 1024, .inl (F 7))), (a 8, .inl (X.cZ, 600, .inl (F 8))), (h, .inr (3, [.ref (a 0), .ref (a 1), .ref (a 2), .ref (a 3), .ref (a 4), .ref (a 5), .ref (a 6), .ref (a 7), .ref (a 8), .int (nI n), .int (zb false), .int am]))] _ _ 34 _ [.int (nI n), .ref hr]
      refine z_put (q := 37) (ws' := [(hr, .inr (2, [.ref ht, .ref h, .int (nI sp), .int (nI n), .int (nI (made + 1)), .int mk, .int x, .int y])), (ht, .inr (4, [.ref ta, .int (nI nl)])), (ta, .inl (X.cI, 40, .inl tf)), (a 0, .inl (X.cI, 600, .inl (F 0))), (a 1, .inl (X.cI, 600, .inl (F 1))), (a 2, .inl (X.cI, 600, .inl (F 2))), (a 3, .inl (X.cI, 600, .inl (F 3))), (a 4, .inl (X.cI, 600, .inl (F 4))), (a 5, .inl (X.cI, 600, .inl (F 5))), (a 6, .inl (X.cI, 600, .inl (F 6))), (a 7, .inl (X.cI, 1024, .inl (F 7))), (a 8, .inl (X.cZ, 600, .inl (F 8))), (h, .inr (3, [.ref (a 0), .ref (a 1), .ref (a 2), .ref (a 3), .ref (a 4), .ref (a 5), .ref (a 6), .ref (a 7), .ref (a 8), .int (nI n), .int (zb false), .int am]))]) C hiX2 tyX2_ok nmX2 0 3 rfl rfl (by decide) hf15 rfl rfl rfl (Nat.le_of_ble_eq_true rfl) dX2_close_34 rfl rfl ?_
      refine z_iconst (q := 38) C k_iconst_0 dX2_close_37 rfl ?_
      refine z_istore_n (q := 39) (lv' := [(3, .int (nI 0)), (0, .ref hr), (1, .ref h), (2, .int (nI made))]) C rfl dX2_close_38 rfl (by decide) rfl ?_
      refine z_lv [1, 2, 3, 0] rfl ?_
      refine z_ws (ws' := [(hr, .inr (2, [.ref ht, .ref h, .int (nI sp), .int (nI n), .int (nI (made + 1)), .int mk, .int x, .int y])), (ht, .inr (4, [.ref ta, .int (nI nl)])), (ta, .inl (X.cI, 40, .inl tf)), (h, .inr (3, [.ref (a 0), .ref (a 1), .ref (a 2), .ref (a 3), .ref (a 4), .ref (a 5), .ref (a 6), .ref (a 7), .ref (a 8), .int (nI n), .int (zb false), .int am])), (a 0, .inl (X.cI, 600, .inl (F 0))), (a 1, .inl (X.cI, 600, .inl (F 1))), (a 2, .inl (X.cI, 600, .inl (F 2))), (a 3, .inl (X.cI, 600, .inl (F 3))), (a 4, .inl (X.cI, 600, .inl (F 4))), (a 5, .inl (X.cI, 600, .inl (F 5))), (a 6, .inl (X.cI, 600, .inl (F 6))), (a 7, .inl (X.cI, 1024, .inl (F 7))), (a 8, .inl (X.cZ, 600, .inl (F 8)))]) [0, 1, 2, 12, 3, 4, 5, 6, 7, 8, 9, 10, 11] (by decide) rfl ?_
      refine l_X2_close_r hr ht ta nl hnl tf h a am L1 made (by omega) L sp n hR.1 (by rw [← hR.1]; exact hse) (by omega) hD (fun F9 n9 ov9 mk x y hR9 => ?_) C E 15 0 F n false mk x y (by omega) (by omega) hR
      have hn96 := hR9.le
      refine z_aload_n (q := 86) C 0 rfl rfl dX2_close_85 rfl ?_
      refine z_get (q := 89) (v := .ref h) C hiX2 0 1 rfl rfl (by decide) hf34 rfl dX2_close_86 rfl ?_
      refine z_callV (q := 92) (n := 0) (As := []) (rest := []) (wr := [(hr, .inr (2, [.ref ht, .ref h, .int (nI sp), .int (nI n), .int (nI (made + 1)), .int mk, .int x, .int y])), (ht, .inr (4, [.ref ta, .int (nI nl)])), (ta, .inl (X.cI, 40, .inl tf)), (a 0, .inl (X.cI, 600, .inl (F9 0))), (a 1, .inl (X.cI, 600, .inl (F9 1))), (a 2, .inl (X.cI, 600, .inl (F9 2))), (a 3, .inl (X.cI, 600, .inl (F9 3))), (a 4, .inl (X.cI, 600, .inl (F9 4))), (a 5, .inl (X.cI, 600, .inl (F9 5))), (a 6, .inl (X.cI, 600, .inl (F9 6))), (a 7, .inl (X.cI, 1024, .inl (F9 7))), (a 8, .inl (X.cZ, 600, .inl (F9 8)))]) C (c_X3_isOverfull X.l X.D X.2.1 h a n9 ov9 am) gX2_close_X3_isOverfull rfl rfl rfl (by decide +kernel) (by decide) ⟨by first | decide | omega, by first | decide | omega⟩ 0 3 rfl rfl [3] [0, 1, 2, 4, 5, 6, 7, 8, 9, 10, 11, 12] rfl rfl (by decide) (by decide) (by decide) rfl rfl (Nat.le_of_ble_eq_true rfl) dX2_close_89 rfl (fun v w1 hp => ?_)
      obtain ⟨rfl, rfl⟩ := hp
      show zW X 4 [(hr, .inr (2, [.ref ht, .ref h, .int (nI sp), .int (nI n), .int (nI (made + 1)), .int mk, .int x, .int y])), (ht, .inr (4, [.ref ta, .int (nI nl)])), (ta, .inl (X.cI, 40, .inl tf)), (a 0, .inl (X.cI, 600, .inl (F9 0))), (a 1, .inl (X.cI, 600, .inl (F9 1))), (a 2, .inl (X.cI, 600, .inl (F9 2))), (a 3, .inl (X.cI, 600, .inl (F9 3))), (a 4, .inl (X.cI, 600, .inl (F9 4))), (a 5, .inl (X.cI, 600, .inl (F9 5))), (a 6, .inl (X.cI, 600, .inl (F9 6))), (a 7, .inl (X.cI, 1024, .inl (F9 7))), (a 8, .inl (X.cZ, 600, .inl (F9 8))), (h, .inr (3, [.ref (a 0), .ref (a 1), .ref (a 2), .ref (a 3), .ref (a 4), .ref (a 5), .ref (a 6), .ref (a 7), .ref (a 8), .int (nI n9), .int (zb ov9), .int am]))] _ _ 92 _ [.int (zb ov9)]
      refine z_if_eq_b (q := 95) (tgt := 97) C dX2_close_92 (by decide) rfl (fun c92 => ?_) (fun c92 => ?_)
      · skip
        refine z_aload_n (q := 98) C 0 rfl rfl dX2_close_97 rfl ?_
        refine z_get (q := 101) (v := .ref h) C hiX2 0 1 rfl rfl (by decide) hf34 rfl dX2_close_98 rfl ?_
        refine z_callV (q := 104) (n := 0) (As := []) (rest := []) (wr := [(hr, .inr (2, [.ref ht, .ref h, .int (nI sp), .int (nI n), .int (nI (made + 1)), .int mk, .int x, .int y])), (ht, .inr (4, [.ref ta, .int (nI nl)])), (ta, .inl (X.cI, 40, .inl tf)), (a 0, .inl (X.cI, 600, .inl (F9 0))), (a 1, .inl (X.cI, 600, .inl (F9 1))), (a 2, .inl (X.cI, 600, .inl (F9 2))), (a 3, .inl (X.cI, 600, .inl (F9 3))), (a 4, .inl (X.cI, 600, .inl (F9 4))), (a 5, .inl (X.cI, 600, .inl (F9 5))), (a 6, .inl (X.cI, 600, .inl (F9 6))), (a 7, .inl (X.cI, 1024, .inl (F9 7))), (a 8, .inl (X.cZ, 600, .inl (F9 8)))]) C (c_X3_size X.l X.D X.2.1 h a n9 ov9 am) gX2_close_X3_size rfl rfl rfl (by decide +kernel) (by decide) ⟨by first | decide | omega, by first | decide | omega⟩ 0 3 rfl rfl [12] [0, 1, 2, 3, 4, 5, 6, 7, 8, 9, 10, 11] rfl rfl (by decide) (by decide) (by decide) rfl rfl (Nat.le_of_ble_eq_true rfl) dX2_close_101 rfl (fun v w1 hp => ?_)
        obtain ⟨rfl, rfl⟩ := hp
        show zW X 4 [(hr, .inr (2, [.ref ht, .ref h, .int (nI sp), .int (nI n), .int (nI (made + 1)), .int mk, .int x, .int y])), (ht, .inr (4, [.ref ta, .int (nI nl)])), (ta, .inl (X.cI, 40, .inl tf)), (a 0, .inl (X.cI, 600, .inl (F9 0))), (a 1, .inl (X.cI, 600, .inl (F9 1))), (a 2, .inl (X.cI, 600, .inl (F9 2))), (a 3, .inl (X.cI, 600, .inl (F9 3))), (a 4, .inl (X.cI, 600, .inl (F9 4))), (a 5, .inl (X.cI, 600, .inl (F9 5))), (a 6, .inl (X.cI, 600, .inl (F9 6))), (a 7, .inl (X.cI, 1024, .inl (F9 7))), (a 8, .inl (X.cZ, 600, .inl (F9 8))), (h, .inr (3, [.ref (a 0), .ref (a 1), .ref (a 2), .ref (a 3), .ref (a 4), .ref (a 5), .ref (a 6), .ref (a 7), .ref (a 8), .int (nI n9), .int (zb ov9), .int am]))] _ _ 104 _ [.int (nI n9)]
        refine z_aload_n (q := 105) C 0 rfl rfl dX2_close_104 rfl ?_
        refine z_get (q := 108) (v := .int (nI n)) C hiX2 0 3 rfl rfl (by decide) hf15 rfl dX2_close_105 rfl ?_
        refine z_icmp_ne_n (q := 111) (tgt := 113) C (by omega) (by omega) dX2_close_108 (by decide) rfl (fun c108 => ?_) (fun c108 => ?_)
        · skip
          refine z_aload_n (q := 114) C 0 rfl rfl dX2_close_113 rfl ?_
          refine z_aload_n (q := 115) C 0 rfl rfl dX2_close_114 rfl ?_
          refine z_get (q := 118) (v := .int (nI n)) C hiX2 0 3 rfl rfl (by decide) hf15 rfl dX2_close_115 rfl ?_
          refine z_put (q := 121) (ws' := [(hr, .inr (2, [.ref ht, .ref h, .int (nI n), .int (nI n), .int (nI (made + 1)), .int mk, .int x, .int y])), (ht, .inr (4, [.ref ta, .int (nI nl)])), (ta, .inl (X.cI, 40, .inl tf)), (a 0, .inl (X.cI, 600, .inl (F9 0))), (a 1, .inl (X.cI, 600, .inl (F9 1))), (a 2, .inl (X.cI, 600, .inl (F9 2))), (a 3, .inl (X.cI, 600, .inl (F9 3))), (a 4, .inl (X.cI, 600, .inl (F9 4))), (a 5, .inl (X.cI, 600, .inl (F9 5))), (a 6, .inl (X.cI, 600, .inl (F9 6))), (a 7, .inl (X.cI, 1024, .inl (F9 7))), (a 8, .inl (X.cZ, 600, .inl (F9 8))), (h, .inr (3, [.ref (a 0), .ref (a 1), .ref (a 2), .ref (a 3), .ref (a 4), .ref (a 5), .ref (a 6), .ref (a 7), .ref (a 8), .int (nI n9), .int (zb ov9), .int am]))]) C hiX2 tyX2_ok nmX2 0 2 rfl rfl (by decide) hf9 rfl rfl rfl (Nat.le_of_ble_eq_true rfl) dX2_close_118 rfl rfl ?_
          refine z_iinc (q := 124) (v := nI (made + 1)) (lv' := [(2, .int (nI (made + 1))), (0, .ref hr), (1, .ref h)]) C 2 dX2_close_121 rfl rfl (k_inc1 made) (by decide) rfl ?_
          refine z_goto (tgt := 12) C dX2_close_124 (by decide) ?_
          refine z_lv [1, 2, 0] rfl ?_
          refine z_ws (ws' := [(hr, .inr (2, [.ref ht, .ref h, .int (nI n), .int (nI n), .int (nI (made + 1)), .int mk, .int x, .int y])), (ht, .inr (4, [.ref ta, .int (nI nl)])), (ta, .inl (X.cI, 40, .inl tf)), (h, .inr (3, [.ref (a 0), .ref (a 1), .ref (a 2), .ref (a 3), .ref (a 4), .ref (a 5), .ref (a 6), .ref (a 7), .ref (a 8), .int (nI n9), .int (zb ov9), .int am])), (a 0, .inl (X.cI, 600, .inl (F9 0))), (a 1, .inl (X.cI, 600, .inl (F9 1))), (a 2, .inl (X.cI, 600, .inl (F9 2))), (a 3, .inl (X.cI, 600, .inl (F9 3))), (a 4, .inl (X.cI, 600, .inl (F9 4))), (a 5, .inl (X.cI, 600, .inl (F9 5))), (a 6, .inl (X.cI, 600, .inl (F9 6))), (a 7, .inl (X.cI, 1024, .inl (F9 7))), (a 8, .inl (X.cZ, 600, .inl (F9 8)))]) [0, 1, 2, 12, 3, 4, 5, 6, 7, 8, 9, 10, 11] (by decide) rfl ?_
          obtain ⟨t9, ht9⟩ : ∃ t9, 601 - made = t9 + 1 := ⟨600 - made, by omega⟩
          rw [ht9] at hfin
          have hx : (roundN nl tf L (nI (made + 1)) 14).2 = false := by rw [hR9.2.2.1]; exact c92
          have hln : n ≤ n9 := by rw [← hR.1, ← hR9.1]; exact (roundN_mono (nl := nl) (f := tf) (L := L) (rd := nI (made + 1)) 0 14 (by omega)).len
          have hn9 := hR9.le
          rw [closeN_on hx (by rw [hR9.1, hR.1]; exact c108)] at hfin
          have hS9 : roundN nl tf L (nI (made + 1)) 14 = ((roundN nl tf L (nI (made + 1)) 14).1, false) := Prod.ext rfl hx
          have hL9 := hR9.1
          rw [c92] at hR9
          rw [hS9] at hR9
          rw [c92]
          exact ih (made + 1) (roundN nl tf L (nI (made + 1)) 14).1 F9 n9 n _ _ _ _ _ (by omega) (by omega) hR9 (by rw [hL9]; exact hln) (by rw [← hR.1]; exact round_done hx) (by rw [hL9]; omega) (by rw [← hfin, show 601 - (made + 1) = t9 by omega])
        · skip
          refine z_ws (ws' := [(hr, .inr (2, [.ref ht, .ref h, .int (nI sp), .int (nI n), .int (nI (made + 1)), .int mk, .int x, .int y])), (ht, .inr (4, [.ref ta, .int (nI nl)])), (ta, .inl (X.cI, 40, .inl tf)), (h, .inr (3, [.ref (a 0), .ref (a 1), .ref (a 2), .ref (a 3), .ref (a 4), .ref (a 5), .ref (a 6), .ref (a 7), .ref (a 8), .int (nI n9), .int (zb ov9), .int am])), (a 0, .inl (X.cI, 600, .inl (F9 0))), (a 1, .inl (X.cI, 600, .inl (F9 1))), (a 2, .inl (X.cI, 600, .inl (F9 2))), (a 3, .inl (X.cI, 600, .inl (F9 3))), (a 4, .inl (X.cI, 600, .inl (F9 4))), (a 5, .inl (X.cI, 600, .inl (F9 5))), (a 6, .inl (X.cI, 600, .inl (F9 6))), (a 7, .inl (X.cI, 1024, .inl (F9 7))), (a 8, .inl (X.cZ, 600, .inl (F9 8)))]) [0, 1, 2, 12, 3, 4, 5, 6, 7, 8, 9, 10, 11] (by decide) rfl ?_
          refine z_iload_n (q := 112) C 2 rfl rfl dX2_close_111 rfl ?_
          refine z_iret C E (by omega) (by omega) dX2_close_112 ?_
          obtain ⟨t9, ht9⟩ : ∃ t9, 601 - made = t9 + 1 := ⟨600 - made, by omega⟩
          rw [ht9] at hfin
          rw [closeN_end (by rw [hR9.2.2.1]; exact c92) (by rw [hR9.1, hR.1]; exact c108)] at hfin
          exact ⟨F9, n9, ov9, _, _, _, _, _, _, by rw [← hfin]; exact hR9, by rw [← hfin], rfl⟩
      · skip
        refine z_ws (ws' := [(hr, .inr (2, [.ref ht, .ref h, .int (nI sp), .int (nI n), .int (nI (made + 1)), .int mk, .int x, .int y])), (ht, .inr (4, [.ref ta, .int (nI nl)])), (ta, .inl (X.cI, 40, .inl tf)), (h, .inr (3, [.ref (a 0), .ref (a 1), .ref (a 2), .ref (a 3), .ref (a 4), .ref (a 5), .ref (a 6), .ref (a 7), .ref (a 8), .int (nI n9), .int (zb ov9), .int am])), (a 0, .inl (X.cI, 600, .inl (F9 0))), (a 1, .inl (X.cI, 600, .inl (F9 1))), (a 2, .inl (X.cI, 600, .inl (F9 2))), (a 3, .inl (X.cI, 600, .inl (F9 3))), (a 4, .inl (X.cI, 600, .inl (F9 4))), (a 5, .inl (X.cI, 600, .inl (F9 5))), (a 6, .inl (X.cI, 600, .inl (F9 6))), (a 7, .inl (X.cI, 1024, .inl (F9 7))), (a 8, .inl (X.cZ, 600, .inl (F9 8)))]) [0, 1, 2, 12, 3, 4, 5, 6, 7, 8, 9, 10, 11] (by decide) rfl ?_
        refine z_iconst (q := 96) C k_iconst_m1 dX2_close_95 rfl ?_
        refine z_iret C E (by omega) (by omega) dX2_close_96 ?_
        obtain ⟨t9, ht9⟩ : ∃ t9, 601 - made = t9 + 1 := ⟨600 - made, by omega⟩
        rw [ht9] at hfin
        rw [closeN_full (by rw [hR9.2.2.1]; exact c92)] at hfin
        exact ⟨F9, n9, ov9, _, _, _, _, _, _, by rw [← hfin]; exact hR9, by rw [← hfin], rfl⟩

set_option maxHeartbeats 4000000 in
set_option maxRecDepth 100000 in
theorem c_X2_close (l : Launch) (D : va_G) (g : ClassId × ClassId × ClassId) (hr ht h0 : Nat) (s1 e1 rd mk x y : Int32) (ta nl : Nat) (hnl : nl ≤ 40) (tf : Nat → Int32) (h : Nat) (a : Nat → Nat) (F : Nat → Nat → Int32) (n : Nat) (am : Int32) (L1 : List Row) (hR : rowsRep F n false (L1, false)) : zM l yX2_close wsX2_close ({ frames := 5, cells := 0, slots := 0, locals := 129 } : Room) D g [.ref hr, .ref h] [(hr, .inr (2, [.ref ht, .ref h0, .int s1, .int e1, .int rd, .int mk, .int x, .int y])), (ht, .inr (4, [.ref ta, .int (nI nl)])), (ta, .inl (g.1, 40, .inl tf)), (h, .inr (3, [.ref (a 0), .ref (a 1), .ref (a 2), .ref (a 3), .ref (a 4), .ref (a 5), .ref (a 6), .ref (a 7), .ref (a 8), .int (nI n), .int (zb false), .int am])), (a 0, .inl (g.1, 600, .inl (F 0))), (a 1, .inl (g.1, 600, .inl (F 1))), (a 2, .inl (g.1, 600, .inl (F 2))), (a 3, .inl (g.1, 600, .inl (F 3))), (a 4, .inl (g.1, 600, .inl (F 4))), (a 5, .inl (g.1, 600, .inl (F 5))), (a 6, .inl (g.1, 600, .inl (F 6))), (a 7, .inl (g.1, 1024, .inl (F 7))), (a 8, .inl (g.2.1, 600, .inl (F 8)))] 0 0 (fun v w1 => ∃ (F1 : Nat → Nat → Int32) (n1 : Nat) (o1 : Bool) (s1 e1 rd mk x y : Int32), rowsRep F1 n1 o1 (closeN nl tf 601 0 L1).1 ∧ v = some (.int (closeN nl tf 601 0 L1).2) ∧ w1 = [(hr, .inr (2, [.ref ht, .ref h, .int s1, .int e1, .int rd, .int mk, .int x, .int y])), (ht, .inr (4, [.ref ta, .int (nI nl)])), (ta, .inl (g.1, 40, .inl tf)), (h, .inr (3, [.ref (a 0), .ref (a 1), .ref (a 2), .ref (a 3), .ref (a 4), .ref (a 5), .ref (a 6), .ref (a 7), .ref (a 8), .int (nI n1), .int (zb o1), .int am])), (a 0, .inl (g.1, 600, .inl (F1 0))), (a 1, .inl (g.1, 600, .inl (F1 1))), (a 2, .inl (g.1, 600, .inl (F1 2))), (a 3, .inl (g.1, 600, .inl (F1 3))), (a 4, .inl (g.1, 600, .inl (F1 4))), (a 5, .inl (g.1, 600, .inl (F1 5))), (a 6, .inl (g.1, 600, .inl (F1 6))), (a 7, .inl (g.1, 1024, .inl (F1 7))), (a 8, .inl (g.2.1, 600, .inl (F1 8)))]) := by
  refine z_met (cc := cX2_close) (maxL := 4) (ret := (some .int)) (lv := [(0, .ref hr), (1, .ref h)]) (by decide) rfl (Nat.le_of_ble_eq_true rfl) rfl ?_
  intro X hXD hXg hXl hnm C E
  subst hXD hXg hXl
  have C : zC X cX2_close 4 RX2 wsX2_close ({ frames := 5, cells := 0, slots := 0, locals := 129 } : Room) := C
  have hiX2 : ∀ w ∈ u_ws RX2 TX2 8, w ∈ wsX2_close := by decide +kernel
  have hf9 : Cond.fieldLink RX2 9 "RdfsRules$Reasoner" "spent" "I" ∈ wsX2_close := by decide +kernel
  have hf34 : Cond.fieldLink RX2 34 "RdfsRules$Reasoner" "rows" "LRdfsRules$Rows;" ∈ wsX2_close := by decide +kernel
  have hn6 := hR.le
  refine z_aload_n (q := 1) C 0 rfl rfl dX2_close_0 rfl ?_
  refine z_aload_n (q := 2) C 1 rfl rfl dX2_close_1 rfl ?_
  refine z_put (q := 5) (ws' := [(hr, .inr (2, [.ref ht, .ref h, .int s1, .int e1, .int rd, .int mk, .int x, .int y])), (ht, .inr (4, [.ref ta, .int (nI nl)])), (ta, .inl (X.cI, 40, .inl tf)), (h, .inr (3, [.ref (a 0), .ref (a 1), .ref (a 2), .ref (a 3), .ref (a 4), .ref (a 5), .ref (a 6), .ref (a 7), .ref (a 8), .int (nI n), .int (zb false), .int am])), (a 0, .inl (X.cI, 600, .inl (F 0))), (a 1, .inl (X.cI, 600, .inl (F 1))), (a 2, .inl (X.cI, 600, .inl (F 2))), (a 3, .inl (X.cI, 600, .inl (F 3))), (a 4, .inl (X.cI, 600, .inl (F 4))), (a 5, .inl (X.cI, 600, .inl (F 5))), (a 6, .inl (X.cI, 600, .inl (F 6))), (a 7, .inl (X.cI, 1024, .inl (F 7))), (a 8, .inl (X.cZ, 600, .inl (F 8)))]) C hiX2 tyX2_ok nmX2 0 1 rfl rfl (by decide) hf34 rfl rfl rfl (Nat.le_of_ble_eq_true rfl) dX2_close_2 rfl rfl ?_
  refine z_aload_n (q := 6) C 0 rfl rfl dX2_close_5 rfl ?_
  refine z_iconst (q := 7) C k_iconst_0 dX2_close_6 rfl ?_
  refine z_put (q := 10) (ws' := [(hr, .inr (2, [.ref ht, .ref h, .int (nI 0), .int e1, .int rd, .int mk, .int x, .int y])), (ht, .inr (4, [.ref ta, .int (nI nl)])), (ta, .inl (X.cI, 40, .inl tf)), (h, .inr (3, [.ref (a 0), .ref (a 1), .ref (a 2), .ref (a 3), .ref (a 4), .ref (a 5), .ref (a 6), .ref (a 7), .ref (a 8), .int (nI n), .int (zb false), .int am])), (a 0, .inl (X.cI, 600, .inl (F 0))), (a 1, .inl (X.cI, 600, .inl (F 1))), (a 2, .inl (X.cI, 600, .inl (F 2))), (a 3, .inl (X.cI, 600, .inl (F 3))), (a 4, .inl (X.cI, 600, .inl (F 4))), (a 5, .inl (X.cI, 600, .inl (F 5))), (a 6, .inl (X.cI, 600, .inl (F 6))), (a 7, .inl (X.cI, 1024, .inl (F 7))), (a 8, .inl (X.cZ, 600, .inl (F 8)))]) C hiX2 tyX2_ok nmX2 0 2 rfl rfl (by decide) hf9 rfl rfl rfl (Nat.le_of_ble_eq_true rfl) dX2_close_7 rfl rfl ?_
  refine z_iconst (q := 11) C k_iconst_0 dX2_close_10 rfl ?_
  refine z_istore_n (q := 12) (lv' := [(2, .int (nI 0)), (0, .ref hr), (1, .ref h)]) C rfl dX2_close_11 rfl (by decide) rfl ?_
  refine z_lv [1, 2, 0] rfl ?_
  exact l_X2_close hr ht ta nl hnl tf h a am L1 C E 602 0 L1 F n 0 e1 rd mk x y (by omega) (by omega) hR (by omega) ⟨fun _ i _ hi => absurd hi (Nat.not_lt_zero i), fun _ i _ _ hi => absurd hi (Nat.not_lt_zero i)⟩ (by omega) rfl
end
section
/-! statics: the two tables of axioms, what a throw needs, the texts -/
def fixL : List Int32 := [nI 0, nI 0, nI 1, nI 0, nI 6, nI 2, nI 0, nI 7, nI 3, nI 6, nI 6, nI 1, nI 6, nI 7, nI 3, nI 7, nI 6, nI 1, nI 7, nI 7, nI 3, nI 5, nI 6, nI 1, nI 5, nI 7, nI 1, nI 4, nI 6, nI 3, nI 4, nI 7, nI 3, nI 10, nI 6, nI 2, nI 10, nI 7, nI 2, nI 11, nI 4, nI 1, nI 9, nI 4, nI 3]
def ofmL : List Int32 := [nI 0, nI 11, nI 6, nI 2, nI 7, nI 2]
def fixF (i : Nat) : Int32 := fixL.getD i (nI 0)
def ofmF (i : Nat) : Int32 := ofmL.getD i (nI 0)
def zStr : List (Nat × String) := [(104, "not 0 to 9 memberships"), (126, "more than 600 rows"), (132, "no such row or no such part of it"), (141, "no such row"), (149, "no such rule"), (161, "nothing is told of this number"), (57, "the type is no term that may be one"), (68, "there are 40 literals"), (79, "these are no parts of a fact"), (88, "there are 80 given facts")]
def zZ (t : Nat × Nat) (A : Nat → Prop) (U : State) : Prop :=
  va_Z RX0 "FIXED" "[I" (.ref t.1) A U U.heap ∧ va_Z RX0 "OF_MEMBERSHIP" "[I" (.ref t.2) A U U.heap ∧ (va_X t.1 45 fixF U U.heap ∧ t.1 < U.heap.size ∧ ¬ A t.1) ∧ (va_X t.2 6 ofmF U U.heap ∧ t.2 < U.heap.size ∧ ¬ A t.2) ∧
  vx_Zq Bundle.tN "UNASSIGNED_STACK" Bundle.steD A U U.heap ∧ vx_Zq Bundle.tN "SUPPRESSED_SENTINEL" Bundle.listD A U U.heap ∧ (∀ q ∈ zStr, ∃ sa, vk_R RX5 q.1 q.2 sa U) ∧ va_Nw (.methodLinkNest RX5 9 yX4_init RX5) U ∧ va_Nw (.methodLinkNest RX5 18 yX1_init RX5) U
theorem zZ.mv {t : Nat × Nat} {A B : Nat → Prop} {s U : State} (h : zZ t A s) (hAB : ∀ q, B q → A q) (hW : s.WarmedH U.vm) (hq : ∀ q : Nat, q < s.heap.size → ¬ A q → U.heap[q]? = s.heap[q]?) (hz : s.heap.size ≤ U.heap.size) : zZ t B U := by
  obtain ⟨h1, h2, ⟨h3, h4, h5⟩, ⟨h6, h7, h8⟩, h9, h10, h11, h13, h14⟩ := h
  exact ⟨va_Z.moved hW.alike (va_Z.narrow (va_Z.kept h1 hq) hAB), va_Z.moved hW.alike (va_Z.narrow (va_Z.kept h2 hq) hAB), ⟨va_X.moved hW.alike (va_X.kept h3 (hq _ h4 h5)), Nat.lt_of_lt_of_le h4 hz, fun e => h5 (hAB _ e)⟩, ⟨va_X.moved hW.alike (va_X.kept h6 (hq _ h7 h8)), Nat.lt_of_lt_of_le h7 hz, fun e => h8 (hAB _ e)⟩,
    vx_Zq.moved hW.alike (vx_Zq.narrow (vx_Zq.kept h9 hq) hAB), vx_Zq.moved hW.alike (vx_Zq.narrow (vx_Zq.kept h10 hq) hAB), fun q hq1 => by
      obtain ⟨sa, h12⟩ := h11 q hq1
      exact ⟨sa, vk_R.warm hW h12⟩, va_Nw.warmM hW h13, va_Nw.warmM hW h14⟩
def zPreZ (t : Nat × Nat) (D : va_G) (g : ClassId × ClassId × ClassId) (sz : Nat) (w : va_W) : State → Prop := fun U => zPre D g sz w U ∧ zZ t (va_A w sz) U
def zMZ (t : Nat × Nat) (l : Launch) (y : MethodName) (Ts : List Cond) (Rm : Room) (D : va_G) (g : ClassId × ClassId × ClassId) (av : List Value) (w : va_W) (mc ms : Nat) (post : Option Value → va_W → Prop) : Prop :=
  ∀ sz : Nat, Met l y Ts Rm (va_Pc av (zPreZ t D g sz w)) (zPost D (va_A w sz) post) mc ms (va_A w sz)
theorem zPreZ_blind (t : Nat × Nat) (D : va_G) (g : ClassId × ClassId × ClassId) (sz : Nat) (av : List Value) (w : va_W) : FrameBlind (va_Pc av (zPreZ t D g sz w)) := fun a U f mk q => by
  obtain ⟨q0, ⟨q1, qP, qK, qD⟩, qZ⟩ := q
  exact ⟨q0, ⟨q1, qP, va_K.moved (u := U) (U := U.calling f mk a) (Vm.Alike.refl U.vm) qK, qD⟩, qZ.mv (U := U.calling f mk a) (fun _ h => h) (State.WarmedH.refl U) (fun _ _ _ => rfl) (Nat.le_refl _)⟩
theorem z_metZ {t : Nat × Nat} {l : Launch} {y : MethodName} {Ts Ts' : List Cond} {Rm : Room} {D : va_G} {g : ClassId × ClassId × ClassId} {av : List Value} {w : va_W} {mc ms : Nat} {post : Option Value → va_W → Prop} {cc : ByteArray} {maxL : Nat} {ret : Option FieldType} {lv : List (Nat × Value)}
    (hy : plainName y.cls = true) (hw : Ts = .code y cc maxL ret :: Ts') (hlen : (lg_sl av).length ≤ maxL) (hlv : lv_args 0 av = lv)
    (body : ∀ X : zX, X.D = D → X.2.1 = g → X.l = l → X.meth.name = y.name → zC X cc maxL y.cls Ts Rm → zE X ret mc ms post → zZ t X.A X.s → zW X maxL w 0 0 0 lv []) : zMZ t l y Ts Rm D g av w mc ms post := by
  intro sz
  refine Met.ofW (cc := cc) (maxL := maxL) (ret := ret) hy hw ?_
  intro p e s m args below meth c s₁ B hml hv
  obtain ⟨rfl, ⟨hsz, hP, hK, hD0⟩, hZ⟩ := hv
  have hts := atoms_spec (ws := Ts) B.pre
  have hown : s.vm.findClass y.cls = some m.cls := findClass_of_methodNamed B.named
  have hname : meth.name = y.name := (name_of_methodNamed B.named B.method).1
  subst hsz
  have hD := hD0.self (sz := s.heap.size)
  have hl := lv_entry av (n := maxL) hlen
  have key := body (D, g, va_A w s.heap.size, p, l, e, (headSpec Ts Rm).room, s, m, av.toArray, below, meth, c, MQ below (zPost D (va_A w s.heap.size) post) av.toArray s mc ms (va_A w s.heap.size)) rfl rfl rfl hname
    ⟨B.exec, B.bytes, hml, hown, hts, hK, fun q h => Or.inr h, rfl, B.notSynchronized⟩ ⟨B.returns, rfl⟩ hZ s.heap [] _ hP hD va_S.rf (by rw [← hlv]; exact hl)
  rw [lg_entry_eq]
  exact key
section ZZ
variable {X : zX} {cc : ByteArray} {nL : Nat} {own : String} {Ts : List Cond} {Rm : Room} {ws : va_W} {n1 n2 pc q mc ms : Nat} {lv lv' : List (Nat × Value)} {st : List Value} {post : Option Value → va_W → Prop} {t : Nat × Nat}
theorem z_getF (C : zC X cc nL own Ts Rm) (hZ : zZ t X.A X.s) {index : Nat} (hf : Cond.fieldLink own index RX0 "FIXED" "[I" ∈ Ts) (hd : decode cc pc = .ok (.getstatic index, 3)) (hq : pc + 3 = q) (k : zW X nL ws n1 n2 q lv (.ref t.1 :: st)) : zW X nL ws n1 n2 pc lv st := by
  subst hq
  exact fun H locs ls hP hD hS hl => va_gets C.x C.b hZ.1 hS C.ow (C.ts _ hf) (fun _ h => h) hd (k H locs ls hP hD hS hl)
theorem z_getO (C : zC X cc nL own Ts Rm) (hZ : zZ t X.A X.s) {index : Nat} (hf : Cond.fieldLink own index RX0 "OF_MEMBERSHIP" "[I" ∈ Ts) (hd : decode cc pc = .ok (.getstatic index, 3)) (hq : pc + 3 = q) (k : zW X nL ws n1 n2 q lv (.ref t.2 :: st)) : zW X nL ws n1 n2 pc lv st := by
  subst hq
  exact fun H locs ls hP hD hS hl => va_gets C.x C.b hZ.2.1 hS C.ow (C.ts _ hf) (fun _ h => h) hd (k H locs ls hP hD hS hl)
theorem z_ldF (C : zC X cc nL own Ts Rm) (hZ : zZ t X.A X.s) {i : Nat} (hi : i < 45) (hd : decode cc pc = .ok (.iaload, 1)) (hq : pc + 1 = q) (k : zW X nL ws n1 n2 q lv (.int (fixF i) :: st)) : zW X nL ws n1 n2 pc lv (.int (nI i) :: .ref t.1 :: st) := by
  subst hq
  refine fun H locs ls hP hD hS hl => va_sld C.x C.b hZ.2.2.1.1 hZ.2.2.1.2.1 hZ.2.2.1.2.2 hS (vp_in_nI hi (by decide)) hd ?_
  rw [nI_clamp (by omega)]
  exact k H locs ls hP hD hS hl
theorem z_ldO (C : zC X cc nL own Ts Rm) (hZ : zZ t X.A X.s) {i : Nat} (hi : i < 6) (hd : decode cc pc = .ok (.iaload, 1)) (hq : pc + 1 = q) (k : zW X nL ws n1 n2 q lv (.int (ofmF i) :: st)) : zW X nL ws n1 n2 pc lv (.int (nI i) :: .ref t.2 :: st) := by
  subst hq
  refine fun H locs ls hP hD hS hl => va_sld C.x C.b hZ.2.2.2.1.1 hZ.2.2.2.1.2.1 hZ.2.2.2.1.2.2 hS (vp_in_nI hi (by decide)) hd ?_
  rw [nI_clamp (by omega)]
  exact k H locs ls hP hD hS hl
theorem z_callVZ (C : zC X cc nL own Ts Rm) (hZ : zZ t X.A X.s) {y : MethodName} {bytes : ByteArray} {maxL n index : Nat} {ret : Option FieldType} {wsC wsC' : List Cond} {rmC : Room} {C0 : String} {b : Nat} {As rest : List Value} {wc wr : va_W} (hM : zMZ t X.l y wsC rmC X.D X.2.1 (.ref b :: As) wc mc ms post) (hG : GoodIn Ts (wsV own index C0 y wsC)) (hws : wsC = .code y bytes maxL ret :: wsC') (hrc : rmC.cells = mc) (hrs : rmC.slots = ms)
    (hcl : y.cls = C0 ∧ y.cls ≠ "java/lang/invoke/MethodHandle" ∧ y.cls ≠ "java/lang/invoke/VarHandle" ∧ (parseMethodDescriptor y.desc).map (fun d => d.parameters.length) = some n) (hroom : rmC.frames + 1 ≤ Rm.frames ∧ 8 + (maxL + 11) + rmC.locals ≤ Rm.locals) (hcells : n1 + mc ≤ Rm.cells ∧ n2 + ms ≤ Rm.slots)
    (q0 ci : Nat) {fs : List Value} {T : u_T} {N : Nat} (hb : wc[q0]? = some (b, .inr (ci, fs))) (hci : vwCl[ci]? = some (C0, T, N)) (isC isR : List Nat) (hC : isC.map (fun i => ws[i]?) = wc.map some) (hR : isR.map (fun i => ws[i]?) = wr.map some) (hnC : va_nd isC = true) (hn : va_nd isR = true) (hdis : ∀ i ∈ isR, i ∉ isC)
    (hAs : As.length = n) (hst : st = As.reverse ++ .ref b :: rest) (hcat : (rest.map fun v => v.category).sum ≤ 8) (hd : decode cc pc = .ok (.invokevirtual index, 3)) (hq : pc + 3 = q)
    (k : ∀ (v : Option Value) (w1 : va_W), post v w1 → zW X nL (wr ++ w1) (n1 + mc) (n2 + ms) q lv (v.toList ++ rest)) : zW X nL ws n1 n2 pc lv st := by
  refine z_back (y := y) (wc := wc) (wr := wr) (rest := rest) (a := (Value.ref b :: As).toArray) ?_ C.a isC isR hC hR hn hdis hq k
  intro H locs ls hP hD hS hFc hl
  have hPc : va_P X.D vwCl wc H := fun j x hx => by
    have h1 : (isC.map (fun i => ws[i]?))[j]? = some (some x) := by rw [hC, List.getElem?_map, hx]; rfl
    rw [List.getElem?_map] at h1
    cases hi : isC[j]? with
    | none => rw [hi] at h1; cases h1
    | some i => rw [hi] at h1; exact hP i x (Option.some.inj h1)
  have hDc := hD.sub isC hnC hC
  exact va_runV (As := As) (rest := rest) ⟨C.x, C.b, C.ml, C.ow, C.ts⟩ (hM H.size) (cwV n C.ts hG hws hrc hrs hcl (by rw [C.r]; exact hroom)) ⟨zPreZ_blind _ _ _ _ _ _, va_recv C.k hPc hci hb, fun U hU hW => ⟨rfl, ⟨by rw [hU], by rw [hU]; exact hPc, va_K.moved hW.alike C.k, hDc.weaken (fun _ _ _ _ => trivial)⟩, hZ.mv hFc hW (fun q h1 h2 => by rw [hU]; exact hS.2.1 q h1 h2) (by rw [hU]; exact hS.1)⟩⟩ rfl hAs hl.1 hst (lv_room hcat) hd (by rw [C.r]; exact hcells)
end ZZ
end
section
/-! Axioms -/
def memN (mb ak : Bool) (cnt : Nat) : Nat := if ak = true ∧ mb = true then cnt else 0
def axSz (mb ak : Bool) (cnt : Nat) : Nat := if ak = true then 15 + 3 * memN mb ak cnt else 0
def axS (i : Nat) : Int32 := if i < 15 then fixF (3 * i) else nI (20 + (i - 15) / 3)
def axP (i : Nat) : Int32 := if i < 15 then fixF (3 * i + 1) else ofmF ((i - 15) % 3 * 2)
def axO (i : Nat) : Int32 := if i < 15 then fixF (3 * i + 2) else ofmF ((i - 15) % 3 * 2 + 1)
def axN (S : RSt) : Nat → RSt
  | 0 => S
  | i + 1 => addR (axN S i) (mkRow (axS i) (axP i) (axO i) (-2) (-1) (-1) (nI 0))
def axHas (s p o : Int32) : Nat → Bool
  | 0 => false
  | i + 1 => axHas s p o i || decide (axS i = s ∧ axP i = p ∧ axO i = o)
theorem memN_le {mb ak : Bool} {cnt : Nat} (h : cnt ≤ 9) : memN mb ak cnt ≤ 9 := by unfold memN; split <;> omega
theorem axSz_le {mb ak : Bool} {cnt : Nat} (h : cnt ≤ 9) : axSz mb ak cnt ≤ 42 := by
  unfold axSz
  have := memN_le (mb := mb) (ak := ak) h
  split <;> omega
theorem axHas_t {s p o : Int32} {i : Nat} (h : axS i = s ∧ axP i = p ∧ axO i = o) : ∀ m, i < m → axHas s p o m = true := by
  intro m
  induction m with
  | zero => intro h; omega
  | succ m ih =>
    intro hm
    show (axHas s p o m || _) = true
    rcases Nat.lt_succ_iff_lt_or_eq.mp hm with c | c
    · rw [ih c, Bool.true_or]
    · subst c
      rw [decide_eq_true h, Bool.or_true]
theorem axHas_f {s p o : Int32} : ∀ m, (∀ i, i < m → ¬ (axS i = s ∧ axP i = p ∧ axO i = o)) → axHas s p o m = false := by
  intro m
  induction m with
  | zero => intro _; rfl
  | succ m ih =>
    intro h
    show (axHas s p o m || _) = false
    rw [ih (fun i hi => h i (by omega)), decide_eq_false (h m (by omega))]
    rfl

set_option maxHeartbeats 4000000 in
set_option maxRecDepth 100000 in
theorem c_X0_ask (l : Launch) (D : va_G) (g : ClassId × ClassId × ClassId) (hx : Nat) (mb ak : Bool) (cnt : Nat) (b : Bool) : zM l yX0_ask wsX0_ask ({ frames := 0, cells := 0, slots := 0, locals := 0 } : Room) D g [.ref hx, .int (zb b)] [(hx, .inr (0, [.int (zb mb), .int (zb ak), .int (nI cnt)]))] 0 0 (fun v w1 => v = none ∧ w1 = [(hx, .inr (0, [.int (zb mb), .int (zb b), .int (nI cnt)]))]) := by
  refine z_met (cc := cX0_ask) (maxL := 2) (ret := none) (lv := [(0, .ref hx), (1, .int (zb b))]) (by decide) rfl (Nat.le_of_ble_eq_true rfl) rfl ?_
  intro X hXD hXg hXl hnm C E
  subst hXD hXg hXl
  have C : zC X cX0_ask 2 RX0 wsX0_ask ({ frames := 0, cells := 0, slots := 0, locals := 0 } : Room) := C
  have hiX0 : ∀ w ∈ u_ws RX0 TX0 3, w ∈ wsX0_ask := by decide +kernel
  have hf9 : Cond.fieldLink RX0 9 "RdfsRules$Axioms" "asked" "Z" ∈ wsX0_ask := by decide +kernel
  refine z_aload_n (q := 1) C 0 rfl rfl dX0_ask_0 rfl ?_
  refine z_iload_n (q := 2) C 1 rfl rfl dX0_ask_1 rfl ?_
  refine z_put (q := 5) (ws' := [(hx, .inr (0, [.int (zb mb), .int (zb b), .int (nI cnt)]))]) C hiX0 tyX0_ok nmX0 0 1 rfl rfl (by decide) hf9 rfl (zb_nar _) (zb_fit _) (Nat.le_of_ble_eq_true rfl) dX0_ask_2 rfl rfl ?_
  refine z_vret C E (by omega) (by omega) dX0_ask_5 ?_
  exact ⟨rfl, rfl⟩

set_option maxHeartbeats 4000000 in
set_option maxRecDepth 100000 in
theorem c_X0_setCount (l : Launch) (D : va_G) (g : ClassId × ClassId × ClassId) (hx : Nat) (mb ak : Bool) (cnt : Nat) (n : Nat) : zM l yX0_setCount wsX0_setCount ({ frames := 0, cells := 0, slots := 0, locals := 0 } : Room) D g [.ref hx, .int (nI n)] [(hx, .inr (0, [.int (zb mb), .int (zb ak), .int (nI cnt)]))] 0 0 (fun v w1 => v = none ∧ w1 = [(hx, .inr (0, [.int (zb mb), .int (zb ak), .int (nI n)]))]) := by
  refine z_met (cc := cX0_setCount) (maxL := 2) (ret := none) (lv := [(0, .ref hx), (1, .int (nI n))]) (by decide) rfl (Nat.le_of_ble_eq_true rfl) rfl ?_
  intro X hXD hXg hXl hnm C E
  subst hXD hXg hXl
  have C : zC X cX0_setCount 2 RX0 wsX0_setCount ({ frames := 0, cells := 0, slots := 0, locals := 0 } : Room) := C
  have hiX0 : ∀ w ∈ u_ws RX0 TX0 3, w ∈ wsX0_setCount := by decide +kernel
  have hf15 : Cond.fieldLink RX0 15 "RdfsRules$Axioms" "count" "I" ∈ wsX0_setCount := by decide +kernel
  refine z_aload_n (q := 1) C 0 rfl rfl dX0_setCount_0 rfl ?_
  refine z_iload_n (q := 2) C 1 rfl rfl dX0_setCount_1 rfl ?_
  refine z_put (q := 5) (ws' := [(hx, .inr (0, [.int (zb mb), .int (zb ak), .int (nI n)]))]) C hiX0 tyX0_ok nmX0 0 2 rfl rfl (by decide) hf15 rfl rfl rfl (Nat.le_of_ble_eq_true rfl) dX0_setCount_2 rfl rfl ?_
  refine z_vret C E (by omega) (by omega) dX0_setCount_5 ?_
  exact ⟨rfl, rfl⟩

set_option maxHeartbeats 4000000 in
set_option maxRecDepth 100000 in
theorem c_X0_memberships (l : Launch) (D : va_G) (g : ClassId × ClassId × ClassId) (hx : Nat) (mb ak : Bool) (cnt : Nat) : zM l yX0_memberships wsX0_memberships ({ frames := 0, cells := 0, slots := 0, locals := 0 } : Room) D g [.ref hx] [(hx, .inr (0, [.int (zb mb), .int (zb ak), .int (nI cnt)]))] 0 0 (fun v w1 => v = some (.int (nI (memN mb ak cnt))) ∧ w1 = [(hx, .inr (0, [.int (zb mb), .int (zb ak), .int (nI cnt)]))]) := by
  refine z_met (cc := cX0_memberships) (maxL := 1) (ret := (some .int)) (lv := [(0, .ref hx)]) (by decide) rfl (Nat.le_of_ble_eq_true rfl) rfl ?_
  intro X hXD hXg hXl hnm C E
  subst hXD hXg hXl
  have C : zC X cX0_memberships 1 RX0 wsX0_memberships ({ frames := 0, cells := 0, slots := 0, locals := 0 } : Room) := C
  have hiX0 : ∀ w ∈ u_ws RX0 TX0 3, w ∈ wsX0_memberships := by decide +kernel
  have hf9 : Cond.fieldLink RX0 9 "RdfsRules$Axioms" "asked" "Z" ∈ wsX0_memberships := by decide +kernel
  have hf15 : Cond.fieldLink RX0 15 "RdfsRules$Axioms" "count" "I" ∈ wsX0_memberships := by decide +kernel
  have hf19 : Cond.fieldLink RX0 19 "RdfsRules$Axioms" "membershipsBelong" "Z" ∈ wsX0_memberships := by decide +kernel
  refine z_aload_n (q := 1) C 0 rfl rfl dX0_memberships_0 rfl ?_
  refine z_get (q := 4) (v := .int (zb ak)) C hiX0 0 1 rfl rfl (by decide) hf9 rfl dX0_memberships_1 rfl ?_
  refine z_if_eq_b (q := 7) (tgt := 21) C dX0_memberships_4 (by decide) rfl (fun c4 => ?_) (fun c4 => ?_)
  · skip
    refine z_iconst (q := 22) C k_iconst_0 dX0_memberships_21 rfl ?_
    refine z_iret C E (by omega) (by omega) dX0_memberships_22 ?_
    refine ⟨?_, rfl⟩
    rw [show memN mb ak cnt = 0 from if_neg (fun z => by first | (rw [c4] at z; exact absurd z.1 (by decide)) | (rw [c11] at z; exact absurd z.2 (by decide)))]
  · skip
    refine z_aload_n (q := 8) C 0 rfl rfl dX0_memberships_7 rfl ?_
    refine z_get (q := 11) (v := .int (zb mb)) C hiX0 0 0 rfl rfl (by decide) hf19 rfl dX0_memberships_8 rfl ?_
    refine z_if_eq_b (q := 14) (tgt := 21) C dX0_memberships_11 (by decide) rfl (fun c11 => ?_) (fun c11 => ?_)
    · skip
      refine z_iconst (q := 22) C k_iconst_0 dX0_memberships_21 rfl ?_
      refine z_iret C E (by omega) (by omega) dX0_memberships_22 ?_
      refine ⟨?_, rfl⟩
      rw [show memN mb ak cnt = 0 from if_neg (fun z => by first | (rw [c4] at z; exact absurd z.1 (by decide)) | (rw [c11] at z; exact absurd z.2 (by decide)))]
    · skip
      refine z_aload_n (q := 15) C 0 rfl rfl dX0_memberships_14 rfl ?_
      refine z_get (q := 18) (v := .int (nI cnt)) C hiX0 0 2 rfl rfl (by decide) hf15 rfl dX0_memberships_15 rfl ?_
      refine z_goto (tgt := 22) C dX0_memberships_18 (by decide) ?_
      refine z_iret C E (by omega) (by omega) dX0_memberships_22 ?_
      exact ⟨by rw [show memN mb ak cnt = cnt from if_pos ⟨c4, c11⟩], rfl⟩

set_option maxHeartbeats 4000000 in
set_option maxRecDepth 100000 in
theorem c_X0_size (l : Launch) (D : va_G) (g : ClassId × ClassId × ClassId) (hx : Nat) (mb ak : Bool) (cnt : Nat) (hc : cnt ≤ 9) : zM l yX0_size wsX0_size ({ frames := 1, cells := 0, slots := 0, locals := 20 } : Room) D g [.ref hx] [(hx, .inr (0, [.int (zb mb), .int (zb ak), .int (nI cnt)]))] 0 0 (fun v w1 => v = some (.int (nI (axSz mb ak cnt))) ∧ w1 = [(hx, .inr (0, [.int (zb mb), .int (zb ak), .int (nI cnt)]))]) := by
  refine z_met (cc := cX0_size) (maxL := 1) (ret := (some .int)) (lv := [(0, .ref hx)]) (by decide) rfl (Nat.le_of_ble_eq_true rfl) rfl ?_
  intro X hXD hXg hXl hnm C E
  subst hXD hXg hXl
  have C : zC X cX0_size 1 RX0 wsX0_size ({ frames := 1, cells := 0, slots := 0, locals := 20 } : Room) := C
  have hiX0 : ∀ w ∈ u_ws RX0 TX0 3, w ∈ wsX0_size := by decide +kernel
  have hf9 : Cond.fieldLink RX0 9 "RdfsRules$Axioms" "asked" "Z" ∈ wsX0_size := by decide +kernel
  refine z_aload_n (q := 1) C 0 rfl rfl dX0_size_0 rfl ?_
  refine z_get (q := 4) (v := .int (zb ak)) C hiX0 0 1 rfl rfl (by decide) hf9 rfl dX0_size_1 rfl ?_
  refine z_if_eq_b (q := 7) (tgt := 19) C dX0_size_4 (by decide) rfl (fun c4 => ?_) (fun c4 => ?_)
  · skip
    refine z_iconst (q := 20) C k_iconst_0 dX0_size_19 rfl ?_
    refine z_iret C E (by omega) (by omega) dX0_size_20 ?_
    exact ⟨by rw [show axSz mb ak cnt = 0 from if_neg (by rw [c4]; decide)], rfl⟩
  · skip
    refine z_bipush (q := 9) C k_bipush_15 dX0_size_7 rfl ?_
    refine z_iconst (q := 10) C k_iconst_3 dX0_size_9 rfl ?_
    refine z_aload_n (q := 11) C 0 rfl rfl dX0_size_10 rfl ?_
    refine z_callV (q := 14) (n := 0) (As := []) (rest := [.int (nI 3), .int (nI 15)]) (wr := []) C (c_X0_memberships X.l X.D X.2.1 hx mb ak cnt) gX0_size_X0_memberships rfl rfl rfl (by decide +kernel) (by decide) ⟨by first | decide | omega, by first | decide | omega⟩ 0 0 rfl rfl [0] [] rfl rfl (by decide) (by decide) (by decide) rfl rfl (Nat.le_of_ble_eq_true rfl) dX0_size_11 rfl (fun v w1 hp => ?_)
    obtain ⟨rfl, rfl⟩ := hp
    show zW X 1 [(hx, .inr (0, [.int (zb mb), .int (zb ak), .int (nI cnt)]))] _ _ 14 _ [.int (nI (memN mb ak cnt)), .int (nI 3), .int (nI 15)]
    refine z_imul (q := 15) C dX0_size_14 rfl ?_
    refine z_eqi (y := nI (3 * (memN mb ak cnt))) (pk_mul 3 (memN mb ak cnt)) ?_
    refine z_iadd (q := 16) C dX0_size_15 rfl ?_
    refine z_eqi (y := nI (15 + (3 * (memN mb ak cnt)))) (nI_add 15 (3 * (memN mb ak cnt))) ?_
    refine z_goto (tgt := 20) C dX0_size_16 (by decide) ?_
    refine z_iret C E (by omega) (by omega) dX0_size_20 ?_
    exact ⟨by rw [show axSz mb ak cnt = 15 + 3 * memN mb ak cnt from if_pos c4], rfl⟩

set_option maxHeartbeats 4000000 in
set_option maxRecDepth 100000 in
theorem c_X0_subject (l : Launch) (D : va_G) (g : ClassId × ClassId × ClassId) (t : Nat × Nat) (hx : Nat) (mb ak : Bool) (cnt : Nat) (i : Nat) (hi : i < 42) : zMZ t l yX0_subject wsX0_subject ({ frames := 0, cells := 0, slots := 0, locals := 0 } : Room) D g [.ref hx, .int (nI i)] [(hx, .inr (0, [.int (zb mb), .int (zb ak), .int (nI cnt)]))] 0 0 (fun v w1 => v = some (.int (axS i)) ∧ w1 = [(hx, .inr (0, [.int (zb mb), .int (zb ak), .int (nI cnt)]))]) := by
  refine z_metZ (cc := cX0_subject) (maxL := 2) (ret := (some .int)) (lv := [(0, .ref hx), (1, .int (nI i))]) (by decide) rfl (Nat.le_of_ble_eq_true rfl) rfl ?_
  intro X hXD hXg hXl hnm C E hZ
  subst hXD hXg hXl
  have C : zC X cX0_subject 2 RX0 wsX0_subject ({ frames := 0, cells := 0, slots := 0, locals := 0 } : Room) := C
  have hf45 : Cond.fieldLink RX0 45 "RdfsRules$Axioms" "FIXED" "[I" ∈ wsX0_subject := by decide +kernel
  refine z_iload_n (q := 1) C 1 rfl rfl dX0_subject_0 rfl ?_
  refine z_bipush (q := 3) C k_bipush_15 dX0_subject_1 rfl ?_
  refine z_icmp_ge_n (q := 6) (tgt := 16) C (by omega) (by omega) dX0_subject_3 (by decide) rfl (fun c3 => ?_) (fun c3 => ?_)
  · skip
    refine z_bipush (q := 18) C k_bipush_20 dX0_subject_16 rfl ?_
    refine z_iload_n (q := 19) C 1 rfl rfl dX0_subject_18 rfl ?_
    refine z_bipush (q := 21) C k_bipush_15 dX0_subject_19 rfl ?_
    refine z_isub (q := 22) C dX0_subject_21 rfl ?_
    refine z_eqi (y := nI (i - 15)) (pk_sub (a := i) (b := 15) (by omega)) ?_
    refine z_iconst (q := 23) C k_iconst_3 dX0_subject_22 rfl ?_
    refine z_idiv (q := 24) C (by decide) dX0_subject_23 rfl ?_
    refine z_eqi (y := nI ((i - 15) / 3)) (pk_div (a := i - 15) (d := 3) (by omega) (by omega) (by omega)) ?_
    refine z_iadd (q := 25) C dX0_subject_24 rfl ?_
    refine z_eqi (y := nI (20 + ((i - 15) / 3))) (nI_add 20 ((i - 15) / 3)) ?_
    refine z_iret C E (by omega) (by omega) dX0_subject_25 ?_
    exact ⟨by rw [show axS i = _ from if_neg (by omega)], rfl⟩
  · skip
    refine z_getF (q := 9) C hZ hf45 dX0_subject_6 rfl ?_
    refine z_iconst (q := 10) C k_iconst_3 dX0_subject_9 rfl ?_
    refine z_iload_n (q := 11) C 1 rfl rfl dX0_subject_10 rfl ?_
    refine z_imul (q := 12) C dX0_subject_11 rfl ?_
    refine z_eqi (y := nI (3 * i)) (pk_mul 3 i) ?_
    refine z_ldF (q := 13) C hZ (i := 3 * i) (by omega) dX0_subject_12 rfl ?_
    refine z_goto (tgt := 25) C dX0_subject_13 (by decide) ?_
    refine z_iret C E (by omega) (by omega) dX0_subject_25 ?_
    exact ⟨by rw [show axS i = _ from if_pos c3], rfl⟩

set_option maxHeartbeats 4000000 in
set_option maxRecDepth 100000 in
theorem c_X0_property (l : Launch) (D : va_G) (g : ClassId × ClassId × ClassId) (t : Nat × Nat) (hx : Nat) (mb ak : Bool) (cnt : Nat) (i : Nat) (hi : i < 42) : zMZ t l yX0_property wsX0_property ({ frames := 0, cells := 0, slots := 0, locals := 0 } : Room) D g [.ref hx, .int (nI i)] [(hx, .inr (0, [.int (zb mb), .int (zb ak), .int (nI cnt)]))] 0 0 (fun v w1 => v = some (.int (axP i)) ∧ w1 = [(hx, .inr (0, [.int (zb mb), .int (zb ak), .int (nI cnt)]))]) := by
  refine z_metZ (cc := cX0_property) (maxL := 2) (ret := (some .int)) (lv := [(0, .ref hx), (1, .int (nI i))]) (by decide) rfl (Nat.le_of_ble_eq_true rfl) rfl ?_
  intro X hXD hXg hXl hnm C E hZ
  subst hXD hXg hXl
  have C : zC X cX0_property 2 RX0 wsX0_property ({ frames := 0, cells := 0, slots := 0, locals := 0 } : Room) := C
  have hf45 : Cond.fieldLink RX0 45 "RdfsRules$Axioms" "FIXED" "[I" ∈ wsX0_property := by decide +kernel
  have hf49 : Cond.fieldLink RX0 49 "RdfsRules$Axioms" "OF_MEMBERSHIP" "[I" ∈ wsX0_property := by decide +kernel
  refine z_iload_n (q := 1) C 1 rfl rfl dX0_property_0 rfl ?_
  refine z_bipush (q := 3) C k_bipush_15 dX0_property_1 rfl ?_
  refine z_icmp_ge_n (q := 6) (tgt := 18) C (by omega) (by omega) dX0_property_3 (by decide) rfl (fun c3 => ?_) (fun c3 => ?_)
  · skip
    refine z_getO (q := 21) C hZ hf49 dX0_property_18 rfl ?_
    refine z_iload_n (q := 22) C 1 rfl rfl dX0_property_21 rfl ?_
    refine z_bipush (q := 24) C k_bipush_15 dX0_property_22 rfl ?_
    refine z_isub (q := 25) C dX0_property_24 rfl ?_
    refine z_eqi (y := nI (i - 15)) (pk_sub (a := i) (b := 15) (by omega)) ?_
    refine z_iconst (q := 26) C k_iconst_3 dX0_property_25 rfl ?_
    refine z_irem (q := 27) C (by decide) dX0_property_26 rfl ?_
    refine z_eqi (y := nI ((i - 15) % 3)) (pk_rem (a := i - 15) (d := 3) (by omega) (by omega) (by omega)) ?_
    refine z_iconst (q := 28) C k_iconst_2 dX0_property_27 rfl ?_
    refine z_imul (q := 29) C dX0_property_28 rfl ?_
    refine z_eqi (y := nI (((i - 15) % 3) * 2)) (pk_mul ((i - 15) % 3) 2) ?_
    refine z_ldO (q := 30) C hZ (i := ((i - 15) % 3) * 2) (by omega) dX0_property_29 rfl ?_
    refine z_iret C E (by omega) (by omega) dX0_property_30 ?_
    exact ⟨by rw [show axP i = _ from if_neg (by omega)], rfl⟩
  · skip
    refine z_getF (q := 9) C hZ hf45 dX0_property_6 rfl ?_
    refine z_iconst (q := 10) C k_iconst_3 dX0_property_9 rfl ?_
    refine z_iload_n (q := 11) C 1 rfl rfl dX0_property_10 rfl ?_
    refine z_imul (q := 12) C dX0_property_11 rfl ?_
    refine z_eqi (y := nI (3 * i)) (pk_mul 3 i) ?_
    refine z_iconst (q := 13) C k_iconst_1 dX0_property_12 rfl ?_
    refine z_iadd (q := 14) C dX0_property_13 rfl ?_
    refine z_eqi (y := nI ((3 * i) + 1)) (nI_add (3 * i) 1) ?_
    refine z_ldF (q := 15) C hZ (i := (3 * i) + 1) (by omega) dX0_property_14 rfl ?_
    refine z_goto (tgt := 30) C dX0_property_15 (by decide) ?_
    refine z_iret C E (by omega) (by omega) dX0_property_30 ?_
    exact ⟨by rw [show axP i = _ from if_pos c3], rfl⟩

set_option maxHeartbeats 4000000 in
set_option maxRecDepth 100000 in
theorem c_X0_object (l : Launch) (D : va_G) (g : ClassId × ClassId × ClassId) (t : Nat × Nat) (hx : Nat) (mb ak : Bool) (cnt : Nat) (i : Nat) (hi : i < 42) : zMZ t l yX0_object wsX0_object ({ frames := 0, cells := 0, slots := 0, locals := 0 } : Room) D g [.ref hx, .int (nI i)] [(hx, .inr (0, [.int (zb mb), .int (zb ak), .int (nI cnt)]))] 0 0 (fun v w1 => v = some (.int (axO i)) ∧ w1 = [(hx, .inr (0, [.int (zb mb), .int (zb ak), .int (nI cnt)]))]) := by
  refine z_metZ (cc := cX0_object) (maxL := 2) (ret := (some .int)) (lv := [(0, .ref hx), (1, .int (nI i))]) (by decide) rfl (Nat.le_of_ble_eq_true rfl) rfl ?_
  intro X hXD hXg hXl hnm C E hZ
  subst hXD hXg hXl
  have C : zC X cX0_object 2 RX0 wsX0_object ({ frames := 0, cells := 0, slots := 0, locals := 0 } : Room) := C
  have hf45 : Cond.fieldLink RX0 45 "RdfsRules$Axioms" "FIXED" "[I" ∈ wsX0_object := by decide +kernel
  have hf49 : Cond.fieldLink RX0 49 "RdfsRules$Axioms" "OF_MEMBERSHIP" "[I" ∈ wsX0_object := by decide +kernel
  refine z_iload_n (q := 1) C 1 rfl rfl dX0_object_0 rfl ?_
  refine z_bipush (q := 3) C k_bipush_15 dX0_object_1 rfl ?_
  refine z_icmp_ge_n (q := 6) (tgt := 18) C (by omega) (by omega) dX0_object_3 (by decide) rfl (fun c3 => ?_) (fun c3 => ?_)
  · skip
    refine z_getO (q := 21) C hZ hf49 dX0_object_18 rfl ?_
    refine z_iload_n (q := 22) C 1 rfl rfl dX0_object_21 rfl ?_
    refine z_bipush (q := 24) C k_bipush_15 dX0_object_22 rfl ?_
    refine z_isub (q := 25) C dX0_object_24 rfl ?_
    refine z_eqi (y := nI (i - 15)) (pk_sub (a := i) (b := 15) (by omega)) ?_
    refine z_iconst (q := 26) C k_iconst_3 dX0_object_25 rfl ?_
    refine z_irem (q := 27) C (by decide) dX0_object_26 rfl ?_
    refine z_eqi (y := nI ((i - 15) % 3)) (pk_rem (a := i - 15) (d := 3) (by omega) (by omega) (by omega)) ?_
    refine z_iconst (q := 28) C k_iconst_2 dX0_object_27 rfl ?_
    refine z_imul (q := 29) C dX0_object_28 rfl ?_
    refine z_eqi (y := nI (((i - 15) % 3) * 2)) (pk_mul ((i - 15) % 3) 2) ?_
    refine z_iconst (q := 30) C k_iconst_1 dX0_object_29 rfl ?_
    refine z_iadd (q := 31) C dX0_object_30 rfl ?_
    refine z_eqi (y := nI ((((i - 15) % 3) * 2) + 1)) (nI_add (((i - 15) % 3) * 2) 1) ?_
    refine z_ldO (q := 32) C hZ (i := (((i - 15) % 3) * 2) + 1) (by omega) dX0_object_31 rfl ?_
    refine z_iret C E (by omega) (by omega) dX0_object_32 ?_
    exact ⟨by rw [show axO i = _ from if_neg (by omega)], rfl⟩
  · skip
    refine z_getF (q := 9) C hZ hf45 dX0_object_6 rfl ?_
    refine z_iconst (q := 10) C k_iconst_3 dX0_object_9 rfl ?_
    refine z_iload_n (q := 11) C 1 rfl rfl dX0_object_10 rfl ?_
    refine z_imul (q := 12) C dX0_object_11 rfl ?_
    refine z_eqi (y := nI (3 * i)) (pk_mul 3 i) ?_
    refine z_iconst (q := 13) C k_iconst_2 dX0_object_12 rfl ?_
    refine z_iadd (q := 14) C dX0_object_13 rfl ?_
    refine z_eqi (y := nI ((3 * i) + 2)) (nI_add (3 * i) 2) ?_
    refine z_ldF (q := 15) C hZ (i := (3 * i) + 2) (by omega) dX0_object_14 rfl ?_
    refine z_goto (tgt := 32) C dX0_object_15 (by decide) ?_
    refine z_iret C E (by omega) (by omega) dX0_object_32 ?_
    exact ⟨by rw [show axO i = _ from if_pos c3], rfl⟩

set_option maxHeartbeats 4000000 in
set_option maxRecDepth 100000 in
theorem l_X0_contains {X : zX} (hx : Nat) (mb ak : Bool) (cnt : Nat) (hc : cnt ≤ 9) (s p o : Int32) (C : zC X cX0_contains 6 RX0 wsX0_contains ({ frames := 2, cells := 0, slots := 0, locals := 40 } : Room)) (E : zE X (some .boolean) 0 0 (fun v w1 => v = some (.int (zb (axHas s p o (axSz mb ak cnt)))) ∧ w1 = [(hx, .inr (0, [.int (zb mb), .int (zb ak), .int (nI cnt)]))])) {t : Nat × Nat} (hZ : zZ t X.A X.s) : ∀ (m : Nat) (i : Nat), i ≤ axSz mb ak cnt → axSz mb ak cnt < i + m → (∀ e, e < i → ¬ (axS e = s ∧ axP e = p ∧ axO e = o)) → zW X 6 [(hx, .inr (0, [.int (zb mb), .int (zb ak), .int (nI cnt)]))] 0 0 9 [(0, .ref hx), (1, .int s), (2, .int p), (3, .int o), (4, .int (nI (axSz mb ak cnt))), (5, .int (nI i))] [] := by
  intro m
  induction m with
  | zero =>
    intro i hi hm hno
    exfalso
    omega
  | succ m ih =>
    intro i hi hm hno
    have h42 := axSz_le (mb := mb) (ak := ak) hc
    refine z_iload (q := 11) C 5 rfl dX0_contains_9 rfl ?_
    refine z_iload (q := 13) C 4 rfl dX0_contains_11 rfl ?_
    refine z_icmp_ge_n (q := 16) (tgt := 54) C (by omega) (by omega) dX0_contains_13 (by decide) rfl (fun c13 => ?_) (fun c13 => ?_)
    · skip
      refine z_iconst (q := 55) C k_iconst_0 dX0_contains_54 rfl ?_
      refine z_zret C E (by omega) (by omega) (by decide) dX0_contains_55 ?_
      exact ⟨congrArg (fun z => some (Value.int z)) (zb_is0 (axHas_f _ (fun e he => hno e (by omega)))), rfl⟩
    · skip
      refine z_aload_n (q := 17) C 0 rfl rfl dX0_contains_16 rfl ?_
      refine z_iload (q := 19) C 5 rfl dX0_contains_17 rfl ?_
      refine z_callVZ (q := 22) (n := 1) (As := [.int (nI i)]) (rest := []) (wr := []) C hZ (c_X0_subject X.l X.D X.2.1 t hx mb ak cnt i (by omega)) gX0_contains_X0_subject rfl rfl rfl (by decide +kernel) (by decide) ⟨by first | decide | omega, by first | decide | omega⟩ 0 0 rfl rfl [0] [] rfl rfl (by decide) (by decide) (by decide) rfl rfl (Nat.le_of_ble_eq_true rfl) dX0_contains_19 rfl (fun v w1 hp => ?_)
      obtain ⟨rfl, rfl⟩ := hp
      show zW X 6 [(hx, .inr (0, [.int (zb mb), .int (zb ak), .int (nI cnt)]))] _ _ 22 _ [.int (axS i)]
      refine z_iload_n (q := 23) C 1 rfl rfl dX0_contains_22 rfl ?_
      refine z_icmp_ne (q := 26) (tgt := 48) C dX0_contains_23 (by decide) rfl (fun c23 => ?_) (fun c23 => ?_)
      · skip
        refine z_iinc (q := 51) (v := nI (i + 1)) (lv' := [(5, .int (nI (i + 1))), (0, .ref hx), (1, .int s), (2, .int p), (3, .int o), (4, .int (nI (axSz mb ak cnt)))]) C 5 dX0_contains_48 rfl rfl (k_inc1 i) (by decide) rfl ?_
        refine z_goto (tgt := 9) C dX0_contains_51 (by decide) ?_
        refine z_lv [1, 2, 3, 4, 5, 0] rfl ?_
        exact ih (i + 1) (by omega) (by omega) (fun e he => by rcases Nat.lt_succ_iff_lt_or_eq.mp he with h1 | h1; exact hno e h1; subst h1; exact fun z => c23 z.1)
      · skip
        refine z_aload_n (q := 27) C 0 rfl rfl dX0_contains_26 rfl ?_
        refine z_iload (q := 29) C 5 rfl dX0_contains_27 rfl ?_
        refine z_callVZ (q := 32) (n := 1) (As := [.int (nI i)]) (rest := []) (wr := []) C hZ (c_X0_property X.l X.D X.2.1 t hx mb ak cnt i (by omega)) gX0_contains_X0_property rfl rfl rfl (by decide +kernel) (by decide) ⟨by first | decide | omega, by first | decide | omega⟩ 0 0 rfl rfl [0] [] rfl rfl (by decide) (by decide) (by decide) rfl rfl (Nat.le_of_ble_eq_true rfl) dX0_contains_29 rfl (fun v w1 hp => ?_)
        obtain ⟨rfl, rfl⟩ := hp
        show zW X 6 [(hx, .inr (0, [.int (zb mb), .int (zb ak), .int (nI cnt)]))] _ _ 32 _ [.int (axP i)]
        refine z_iload_n (q := 33) C 2 rfl rfl dX0_contains_32 rfl ?_
        refine z_icmp_ne (q := 36) (tgt := 48) C dX0_contains_33 (by decide) rfl (fun c33 => ?_) (fun c33 => ?_)
        · skip
          refine z_iinc (q := 51) (v := nI (i + 1)) (lv' := [(5, .int (nI (i + 1))), (0, .ref hx), (1, .int s), (2, .int p), (3, .int o), (4, .int (nI (axSz mb ak cnt)))]) C 5 dX0_contains_48 rfl rfl (k_inc1 i) (by decide) rfl ?_
          refine z_goto (tgt := 9) C dX0_contains_51 (by decide) ?_
          refine z_lv [1, 2, 3, 4, 5, 0] rfl ?_
          exact ih (i + 1) (by omega) (by omega) (fun e he => by rcases Nat.lt_succ_iff_lt_or_eq.mp he with h1 | h1; exact hno e h1; subst h1; exact fun z => c33 z.2.1)
        · skip
          refine z_aload_n (q := 37) C 0 rfl rfl dX0_contains_36 rfl ?_
          refine z_iload (q := 39) C 5 rfl dX0_contains_37 rfl ?_
          refine z_callVZ (q := 42) (n := 1) (As := [.int (nI i)]) (rest := []) (wr := []) C hZ (c_X0_object X.l X.D X.2.1 t hx mb ak cnt i (by omega)) gX0_contains_X0_object rfl rfl rfl (by decide +kernel) (by decide) ⟨by first | decide | omega, by first | decide | omega⟩ 0 0 rfl rfl [0] [] rfl rfl (by decide) (by decide) (by decide) rfl rfl (Nat.le_of_ble_eq_true rfl) dX0_contains_39 rfl (fun v w1 hp => ?_)
          obtain ⟨rfl, rfl⟩ := hp
          show zW X 6 [(hx, .inr (0, [.int (zb mb), .int (zb ak), .int (nI cnt)]))] _ _ 42 _ [.int (axO i)]
          refine z_iload_n (q := 43) C 3 rfl rfl dX0_contains_42 rfl ?_
          refine z_icmp_ne (q := 46) (tgt := 48) C dX0_contains_43 (by decide) rfl (fun c43 => ?_) (fun c43 => ?_)
          · skip
            refine z_iinc (q := 51) (v := nI (i + 1)) (lv' := [(5, .int (nI (i + 1))), (0, .ref hx), (1, .int s), (2, .int p), (3, .int o), (4, .int (nI (axSz mb ak cnt)))]) C 5 dX0_contains_48 rfl rfl (k_inc1 i) (by decide) rfl ?_
            refine z_goto (tgt := 9) C dX0_contains_51 (by decide) ?_
            refine z_lv [1, 2, 3, 4, 5, 0] rfl ?_
            exact ih (i + 1) (by omega) (by omega) (fun e he => by rcases Nat.lt_succ_iff_lt_or_eq.mp he with h1 | h1; exact hno e h1; subst h1; exact fun z => c43 z.2.2)
          · skip
            refine z_iconst (q := 47) C k_iconst_1 dX0_contains_46 rfl ?_
            refine z_zret C E (by omega) (by omega) (by decide) dX0_contains_47 ?_
            exact ⟨congrArg (fun z => some (Value.int z)) (zb_is1 (axHas_t ⟨c23, c33, c43⟩ _ (by omega))), rfl⟩

set_option maxHeartbeats 4000000 in
set_option maxRecDepth 100000 in
theorem c_X0_contains (l : Launch) (D : va_G) (g : ClassId × ClassId × ClassId) (t : Nat × Nat) (hx : Nat) (mb ak : Bool) (cnt : Nat) (hc : cnt ≤ 9) (s p o : Int32) : zMZ t l yX0_contains wsX0_contains ({ frames := 2, cells := 0, slots := 0, locals := 40 } : Room) D g [.ref hx, .int s, .int p, .int o] [(hx, .inr (0, [.int (zb mb), .int (zb ak), .int (nI cnt)]))] 0 0 (fun v w1 => v = some (.int (zb (axHas s p o (axSz mb ak cnt)))) ∧ w1 = [(hx, .inr (0, [.int (zb mb), .int (zb ak), .int (nI cnt)]))]) := by
  refine z_metZ (cc := cX0_contains) (maxL := 6) (ret := (some .boolean)) (lv := [(0, .ref hx), (1, .int s), (2, .int p), (3, .int o)]) (by decide) rfl (Nat.le_of_ble_eq_true rfl) rfl ?_
  intro X hXD hXg hXl hnm C E hZ
  subst hXD hXg hXl
  have C : zC X cX0_contains 6 RX0 wsX0_contains ({ frames := 2, cells := 0, slots := 0, locals := 40 } : Room) := C
  refine z_aload_n (q := 1) C 0 rfl rfl dX0_contains_0 rfl ?_
  refine z_callV (q := 4) (n := 0) (As := []) (rest := []) (wr := []) C (c_X0_size X.l X.D X.2.1 hx mb ak cnt hc) gX0_contains_X0_size rfl rfl rfl (by decide +kernel) (by decide) ⟨by first | decide | omega, by first | decide | omega⟩ 0 0 rfl rfl [0] [] rfl rfl (by decide) (by decide) (by decide) rfl rfl (Nat.le_of_ble_eq_true rfl) dX0_contains_1 rfl (fun v w1 hp => ?_)
  obtain ⟨rfl, rfl⟩ := hp
  show zW X 6 [(hx, .inr (0, [.int (zb mb), .int (zb ak), .int (nI cnt)]))] _ _ 4 _ [.int (nI (axSz mb ak cnt))]
  refine z_istore (q := 6) (lv' := [(4, .int (nI (axSz mb ak cnt))), (0, .ref hx), (1, .int s), (2, .int p), (3, .int o)]) C dX0_contains_4 rfl (by decide) rfl ?_
  refine z_iconst (q := 7) C k_iconst_0 dX0_contains_6 rfl ?_
  refine z_istore (q := 9) (lv' := [(5, .int (nI 0)), (4, .int (nI (axSz mb ak cnt))), (0, .ref hx), (1, .int s), (2, .int p), (3, .int o)]) C dX0_contains_7 rfl (by decide) rfl ?_
  refine z_lv [2, 3, 4, 5, 1, 0] rfl ?_
  exact l_X0_contains hx mb ak cnt hc s p o C E hZ (axSz mb ak cnt + 1) 0 (by omega) (by omega) (fun e he => absurd he (Nat.not_lt_zero e))

set_option maxHeartbeats 4000000 in
set_option maxRecDepth 100000 in
theorem l_X0_appendTo {X : zX} (hx : Nat) (mb ak : Bool) (cnt : Nat) (hc : cnt ≤ 9) (h : Nat) (a : Nat → Nat) (am : Int32) (S : RSt) (C : zC X cX0_appendTo 4 RX0 wsX0_appendTo ({ frames := 2, cells := 0, slots := 0, locals := 54 } : Room)) (E : zE X none 0 0 (fun v w1 => ∃ (F1 : Nat → Nat → Int32) (n1 : Nat) (o1 : Bool), rowsRep F1 n1 o1 (axN S (axSz mb ak cnt)) ∧ v = none ∧ w1 = [(hx, .inr (0, [.int (zb mb), .int (zb ak), .int (nI cnt)])), (h, .inr (3, [.ref (a 0), .ref (a 1), .ref (a 2), .ref (a 3), .ref (a 4), .ref (a 5), .ref (a 6), .ref (a 7), .ref (a 8), .int (nI n1), .int (zb o1), .int am])), (a 0, .inl (X.cI, 600, .inl (F1 0))), (a 1, .inl (X.cI, 600, .inl (F1 1))), (a 2, .inl (X.cI, 600, .inl (F1 2))), (a 3, .inl (X.cI, 600, .inl (F1 3))), (a 4, .inl (X.cI, 600, .inl (F1 4))), (a 5, .inl (X.cI, 600, .inl (F1 5))), (a 6, .inl (X.cI, 600, .inl (F1 6))), (a 7, .inl (X.cI, 1024, .inl (F1 7))), (a 8, .inl (X.cZ, 600, .inl (F1 8)))])) {t : Nat × Nat} (hZ : zZ t X.A X.s) : ∀ (m : Nat) (i : Nat) (F : Nat → Nat → Int32) (n : Nat) (ov : Bool), i ≤ axSz mb ak cnt → axSz mb ak cnt < i + m → rowsRep F n ov (axN S i) → zW X 4 [(hx, .inr (0, [.int (zb mb), .int (zb ak), .int (nI cnt)])), (h, .inr (3, [.ref (a 0), .ref (a 1), .ref (a 2), .ref (a 3), .ref (a 4), .ref (a 5), .ref (a 6), .ref (a 7), .ref (a 8), .int (nI n), .int (zb ov), .int am])), (a 0, .inl (X.cI, 600, .inl (F 0))), (a 1, .inl (X.cI, 600, .inl (F 1))), (a 2, .inl (X.cI, 600, .inl (F 2))), (a 3, .inl (X.cI, 600, .inl (F 3))), (a 4, .inl (X.cI, 600, .inl (F 4))), (a 5, .inl (X.cI, 600, .inl (F 5))), (a 6, .inl (X.cI, 600, .inl (F 6))), (a 7, .inl (X.cI, 1024, .inl (F 7))), (a 8, .inl (X.cZ, 600, .inl (F 8)))] 0 0 7 [(0, .ref hx), (1, .ref h), (2, .int (nI (axSz mb ak cnt))), (3, .int (nI i))] [] := by
  intro m
  induction m with
  | zero =>
    intro i F n ov hi hm hR
    exfalso
    omega
  | succ m ih =>
    intro i F n ov hi hm hR
    have h42 := axSz_le (mb := mb) (ak := ak) hc
    refine z_iload_n (q := 8) C 3 rfl rfl dX0_appendTo_7 rfl ?_
    refine z_iload_n (q := 9) C 2 rfl rfl dX0_appendTo_8 rfl ?_
    refine z_icmp_ge_n (q := 12) (tgt := 42) C (by omega) (by omega) dX0_appendTo_9 (by decide) rfl (fun c9 => ?_) (fun c9 => ?_)
    · skip
      refine z_vret C E (by omega) (by omega) dX0_appendTo_42 ?_
      obtain he : i = axSz mb ak cnt := by omega
      rw [he] at hR
      exact ⟨F, n, ov, hR, rfl, rfl⟩
    · skip
      refine z_aload_n (q := 13) C 1 rfl rfl dX0_appendTo_12 rfl ?_
      refine z_aload_n (q := 14) C 0 rfl rfl dX0_appendTo_13 rfl ?_
      refine z_iload_n (q := 15) C 3 rfl rfl dX0_appendTo_14 rfl ?_
      refine z_callVZ (q := 18) (n := 1) (As := [.int (nI i)]) (rest := [.ref h]) (wr := [(h, .inr (3, [.ref (a 0), .ref (a 1), .ref (a 2), .ref (a 3), .ref (a 4), .ref (a 5), .ref (a 6), .ref (a 7), .ref (a 8), .int (nI n), .int (zb ov), .int am])), (a 0, .inl (X.cI, 600, .inl (F 0))), (a 1, .inl (X.cI, 600, .inl (F 1))), (a 2, .inl (X.cI, 600, .inl (F 2))), (a 3, .inl (X.cI, 600, .inl (F 3))), (a 4, .inl (X.cI, 600, .inl (F 4))), (a 5, .inl (X.cI, 600, .inl (F 5))), (a 6, .inl (X.cI, 600, .inl (F 6))), (a 7, .inl (X.cI, 1024, .inl (F 7))), (a 8, .inl (X.cZ, 600, .inl (F 8)))]) C hZ (c_X0_subject X.l X.D X.2.1 t hx mb ak cnt i (by omega)) gX0_appendTo_X0_subject rfl rfl rfl (by decide +kernel) (by decide) ⟨by first | decide | omega, by first | decide | omega⟩ 0 0 rfl rfl [0] [1, 2, 3, 4, 5, 6, 7, 8, 9, 10] rfl rfl (by decide) (by decide) (by decide) rfl rfl (Nat.le_of_ble_eq_true rfl) dX0_appendTo_15 rfl (fun v w1 hp => ?_)
      obtain ⟨rfl, rfl⟩ := hp
      show zW X 4 [(h, .inr (3, [.ref (a 0), .ref (a 1), .ref (a 2), .ref (a 3), .ref (a 4), .ref (a 5), .ref (a 6), .ref (a 7), .ref (a 8), .int (nI n), .int (zb ov), .int am])), (a 0, .inl (X.cI, 600, .inl (F 0))), (a 1, .inl (X.cI, 600, .inl (F 1))), (a 2, .inl (X.cI, 600, .inl (F 2))), (a 3, .inl (X.cI, 600, .inl (F 3))), (a 4, .inl (X.cI, 600, .inl (F 4))), (a 5, .inl (X.cI, 600, .inl (F 5))), (a 6, .inl (X.cI, 600, .inl (F 6))), (a 7, .inl (X.cI, 1024, .inl (F 7))), (a 8, .inl (X.cZ, 600, .inl (F 8))), (hx, .inr (0, [.int (zb mb), .int (zb ak), .int (nI cnt)]))] _ _ 18 _ [.int (axS i), .ref h]
      refine z_aload_n (q := 19) C 0 rfl rfl dX0_appendTo_18 rfl ?_
      refine z_iload_n (q := 20) C 3 rfl rfl dX0_appendTo_19 rfl ?_
      refine z_callVZ (q := 23) (n := 1) (As := [.int (nI i)]) (rest := [.int (axS i), .ref h]) (wr := [(h, .inr (3, [.ref (a 0), .ref (a 1), .ref (a 2), .ref (a 3), .ref (a 4), .ref (a 5), .ref (a 6), .ref (a 7), .ref (a 8), .int (nI n), .int (zb ov), .int am])), (a 0, .inl (X.cI, 600, .inl (F 0))), (a 1, .inl (X.cI, 600, .inl (F 1))), (a 2, .inl (X.cI, 600, .inl (F 2))), (a 3, .inl (X.cI, 600, .inl (F 3))), (a 4, .inl (X.cI, 600, .inl (F 4))), (a 5, .inl (X.cI, 600, .inl (F 5))), (a 6, .inl (X.cI, 600, .inl (F 6))), (a 7, .inl (X.cI, 1024, .inl (F 7))), (a 8, .inl (X.cZ, 600, .inl (F 8)))]) C hZ (c_X0_property X.l X.D X.2.1 t hx mb ak cnt i (by omega)) gX0_appendTo_X0_property rfl rfl rfl (by decide +kernel) (by decide) ⟨by first | decide | omega, by first | decide | omega⟩ 0 0 rfl rfl [10] [0, 1, 2, 3, 4, 5, 6, 7, 8, 9] rfl rfl (by decide) (by decide) (by decide) rfl rfl (Nat.le_of_ble_eq_true rfl) dX0_appendTo_20 rfl (fun v w1 hp => ?_)
      obtain ⟨rfl, rfl⟩ := hp
      show zW X 4 [(h, .inr (3, [.ref (a 0), .ref (a 1), .ref (a 2), .ref (a 3), .ref (a 4), .ref (a 5), .ref (a 6), .ref (a 7), .ref (a 8), .int (nI n), .int (zb ov), .int am])), (a 0, .inl (X.cI, 600, .inl (F 0))), (a 1, .inl (X.cI, 600, .inl (F 1))), (a 2, .inl (X.cI, 600, .inl (F 2))), (a 3, .inl (X.cI, 600, .inl (F 3))), (a 4, .inl (X.cI, 600, .inl (F 4))), (a 5, .inl (X.cI, 600, .inl (F 5))), (a 6, .inl (X.cI, 600, .inl (F 6))), (a 7, .inl (X.cI, 1024, .inl (F 7))), (a 8, .inl (X.cZ, 600, .inl (F 8))), (hx, .inr (0, [.int (zb mb), .int (zb ak), .int (nI cnt)]))] _ _ 23 _ [.int (axP i), .int (axS i), .ref h]
      refine z_aload_n (q := 24) C 0 rfl rfl dX0_appendTo_23 rfl ?_
      refine z_iload_n (q := 25) C 3 rfl rfl dX0_appendTo_24 rfl ?_
      refine z_callVZ (q := 28) (n := 1) (As := [.int (nI i)]) (rest := [.int (axP i), .int (axS i), .ref h]) (wr := [(h, .inr (3, [.ref (a 0), .ref (a 1), .ref (a 2), .ref (a 3), .ref (a 4), .ref (a 5), .ref (a 6), .ref (a 7), .ref (a 8), .int (nI n), .int (zb ov), .int am])), (a 0, .inl (X.cI, 600, .inl (F 0))), (a 1, .inl (X.cI, 600, .inl (F 1))), (a 2, .inl (X.cI, 600, .inl (F 2))), (a 3, .inl (X.cI, 600, .inl (F 3))), (a 4, .inl (X.cI, 600, .inl (F 4))), (a 5, .inl (X.cI, 600, .inl (F 5))), (a 6, .inl (X.cI, 600, .inl (F 6))), (a 7, .inl (X.cI, 1024, .inl (F 7))), (a 8, .inl (X.cZ, 600, .inl (F 8)))]) C hZ (c_X0_object X.l X.D X.2.1 t hx mb ak cnt i (by omega)) gX0_appendTo_X0_object rfl rfl rfl (by decide +kernel) (by decide) ⟨by first | decide | omega, by first | decide | omega⟩ 0 0 rfl rfl [10] [0, 1, 2, 3, 4, 5, 6, 7, 8, 9] rfl rfl (by decide) (by decide) (by decide) rfl rfl (Nat.le_of_ble_eq_true rfl) dX0_appendTo_25 rfl (fun v w1 hp => ?_)
      obtain ⟨rfl, rfl⟩ := hp
      show zW X 4 [(h, .inr (3, [.ref (a 0), .ref (a 1), .ref (a 2), .ref (a 3), .ref (a 4), .ref (a 5), .ref (a 6), .ref (a 7), .ref (a 8), .int (nI n), .int (zb ov), .int am])), (a 0, .inl (X.cI, 600, .inl (F 0))), (a 1, .inl (X.cI, 600, .inl (F 1))), (a 2, .inl (X.cI, 600, .inl (F 2))), (a 3, .inl (X.cI, 600, .inl (F 3))), (a 4, .inl (X.cI, 600, .inl (F 4))), (a 5, .inl (X.cI, 600, .inl (F 5))), (a 6, .inl (X.cI, 600, .inl (F 6))), (a 7, .inl (X.cI, 1024, .inl (F 7))), (a 8, .inl (X.cZ, 600, .inl (F 8))), (hx, .inr (0, [.int (zb mb), .int (zb ak), .int (nI cnt)]))] _ _ 28 _ [.int (axO i), .int (axP i), .int (axS i), .ref h]
      refine z_bipush (q := 30) C k_bipush_m2 dX0_appendTo_28 rfl ?_
      refine z_iconst (q := 31) C k_iconst_m1 dX0_appendTo_30 rfl ?_
      refine z_iconst (q := 32) C k_iconst_m1 dX0_appendTo_31 rfl ?_
      refine z_iconst (q := 33) C k_iconst_0 dX0_appendTo_32 rfl ?_
      refine z_callV (q := 36) (n := 7) (As := [.int (axS i), .int (axP i), .int (axO i), .int (-2), .int (-1), .int (-1), .int (nI 0)]) (rest := []) (wr := [(hx, .inr (0, [.int (zb mb), .int (zb ak), .int (nI cnt)]))]) C (c_X3_addNew X.l X.D X.2.1 h a F n ov am (axN S i) hR (axS i) (axP i) (axO i) (-2) (-1) (-1) (nI 0)) gX0_appendTo_X3_addNew rfl rfl rfl (by decide +kernel) (by decide) ⟨by first | decide | omega, by first | decide | omega⟩ 0 3 rfl rfl [0, 1, 2, 3, 4, 5, 6, 7, 8, 9] [10] rfl rfl (by decide) (by decide) (by decide) rfl rfl (Nat.le_of_ble_eq_true rfl) dX0_appendTo_33 rfl (fun v w1 hp => ?_)
      obtain ⟨F1, n1, o1, hR1, rfl, rfl⟩ := hp
      show zW X 4 [(hx, .inr (0, [.int (zb mb), .int (zb ak), .int (nI cnt)])), (h, .inr (3, [.ref (a 0), .ref (a 1), .ref (a 2), .ref (a 3), .ref (a 4), .ref (a 5), .ref (a 6), .ref (a 7), .ref (a 8), .int (nI n1), .int (zb o1), .int am])), (a 0, .inl (X.cI, 600, .inl (F1 0))), (a 1, .inl (X.cI, 600, .inl (F1 1))), (a 2, .inl (X.cI, 600, .inl (F1 2))), (a 3, .inl (X.cI, 600, .inl (F1 3))), (a 4, .inl (X.cI, 600, .inl (F1 4))), (a 5, .inl (X.cI, 600, .inl (F1 5))), (a 6, .inl (X.cI, 600, .inl (F1 6))), (a 7, .inl (X.cI, 1024, .inl (F1 7))), (a 8, .inl (X.cZ, 600, .inl (F1 8)))] _ _ 36 _ []
      refine z_iinc (q := 39) (v := nI (i + 1)) (lv' := [(3, .int (nI (i + 1))), (0, .ref hx), (1, .ref h), (2, .int (nI (axSz mb ak cnt)))]) C 3 dX0_appendTo_36 rfl rfl (k_inc1 i) (by decide) rfl ?_
      refine z_goto (tgt := 7) C dX0_appendTo_39 (by decide) ?_
      refine z_lv [1, 2, 3, 0] rfl ?_
      exact ih (i + 1) F1 n1 o1 (by omega) (by omega) hR1

set_option maxHeartbeats 4000000 in
set_option maxRecDepth 100000 in
theorem c_X0_appendTo (l : Launch) (D : va_G) (g : ClassId × ClassId × ClassId) (t : Nat × Nat) (hx : Nat) (mb ak : Bool) (cnt : Nat) (hc : cnt ≤ 9) (h : Nat) (a : Nat → Nat) (F : Nat → Nat → Int32) (n : Nat) (ov : Bool) (am : Int32) (S : RSt) (hR : rowsRep F n ov S) : zMZ t l yX0_appendTo wsX0_appendTo ({ frames := 2, cells := 0, slots := 0, locals := 54 } : Room) D g [.ref hx, .ref h] [(hx, .inr (0, [.int (zb mb), .int (zb ak), .int (nI cnt)])), (h, .inr (3, [.ref (a 0), .ref (a 1), .ref (a 2), .ref (a 3), .ref (a 4), .ref (a 5), .ref (a 6), .ref (a 7), .ref (a 8), .int (nI n), .int (zb ov), .int am])), (a 0, .inl (g.1, 600, .inl (F 0))), (a 1, .inl (g.1, 600, .inl (F 1))), (a 2, .inl (g.1, 600, .inl (F 2))), (a 3, .inl (g.1, 600, .inl (F 3))), (a 4, .inl (g.1, 600, .inl (F 4))), (a 5, .inl (g.1, 600, .inl (F 5))), (a 6, .inl (g.1, 600, .inl (F 6))), (a 7, .inl (g.1, 1024, .inl (F 7))), (a 8, .inl (g.2.1, 600, .inl (F 8)))] 0 0 (fun v w1 => ∃ (F1 : Nat → Nat → Int32) (n1 : Nat) (o1 : Bool), rowsRep F1 n1 o1 (axN S (axSz mb ak cnt)) ∧ v = none ∧ w1 = [(hx, .inr (0, [.int (zb mb), .int (zb ak), .int (nI cnt)])), (h, .inr (3, [.ref (a 0), .ref (a 1), .ref (a 2), .ref (a 3), .ref (a 4), .ref (a 5), .ref (a 6), .ref (a 7), .ref (a 8), .int (nI n1), .int (zb o1), .int am])), (a 0, .inl (g.1, 600, .inl (F1 0))), (a 1, .inl (g.1, 600, .inl (F1 1))), (a 2, .inl (g.1, 600, .inl (F1 2))), (a 3, .inl (g.1, 600, .inl (F1 3))), (a 4, .inl (g.1, 600, .inl (F1 4))), (a 5, .inl (g.1, 600, .inl (F1 5))), (a 6, .inl (g.1, 600, .inl (F1 6))), (a 7, .inl (g.1, 1024, .inl (F1 7))), (a 8, .inl (g.2.1, 600, .inl (F1 8)))]) := by
  refine z_metZ (cc := cX0_appendTo) (maxL := 4) (ret := none) (lv := [(0, .ref hx), (1, .ref h)]) (by decide) rfl (Nat.le_of_ble_eq_true rfl) rfl ?_
  intro X hXD hXg hXl hnm C E hZ
  subst hXD hXg hXl
  have C : zC X cX0_appendTo 4 RX0 wsX0_appendTo ({ frames := 2, cells := 0, slots := 0, locals := 54 } : Room) := C
  refine z_aload_n (q := 1) C 0 rfl rfl dX0_appendTo_0 rfl ?_
  refine z_callV (q := 4) (n := 0) (As := []) (rest := []) (wr := [(h, .inr (3, [.ref (a 0), .ref (a 1), .ref (a 2), .ref (a 3), .ref (a 4), .ref (a 5), .ref (a 6), .ref (a 7), .ref (a 8), .int (nI n), .int (zb ov), .int am])), (a 0, .inl (X.cI, 600, .inl (F 0))), (a 1, .inl (X.cI, 600, .inl (F 1))), (a 2, .inl (X.cI, 600, .inl (F 2))), (a 3, .inl (X.cI, 600, .inl (F 3))), (a 4, .inl (X.cI, 600, .inl (F 4))), (a 5, .inl (X.cI, 600, .inl (F 5))), (a 6, .inl (X.cI, 600, .inl (F 6))), (a 7, .inl (X.cI, 1024, .inl (F 7))), (a 8, .inl (X.cZ, 600, .inl (F 8)))]) C (c_X0_size X.l X.D X.2.1 hx mb ak cnt hc) gX0_appendTo_X0_size rfl rfl rfl (by decide +kernel) (by decide) ⟨by first | decide | omega, by first | decide | omega⟩ 0 0 rfl rfl [0] [1, 2, 3, 4, 5, 6, 7, 8, 9, 10] rfl rfl (by decide) (by decide) (by decide) rfl rfl (Nat.le_of_ble_eq_true rfl) dX0_appendTo_1 rfl (fun v w1 hp => ?_)
  obtain ⟨rfl, rfl⟩ := hp
  show zW X 4 [(h, .inr (3, [.ref (a 0), .ref (a 1), .ref (a 2), .ref (a 3), .ref (a 4), .ref (a 5), .ref (a 6), .ref (a 7), .ref (a 8), .int (nI n), .int (zb ov), .int am])), (a 0, .inl (X.cI, 600, .inl (F 0))), (a 1, .inl (X.cI, 600, .inl (F 1))), (a 2, .inl (X.cI, 600, .inl (F 2))), (a 3, .inl (X.cI, 600, .inl (F 3))), (a 4, .inl (X.cI, 600, .inl (F 4))), (a 5, .inl (X.cI, 600, .inl (F 5))), (a 6, .inl (X.cI, 600, .inl (F 6))), (a 7, .inl (X.cI, 1024, .inl (F 7))), (a 8, .inl (X.cZ, 600, .inl (F 8))), (hx, .inr (0, [.int (zb mb), .int (zb ak), .int (nI cnt)]))] _ _ 4 _ [.int (nI (axSz mb ak cnt))]
  refine z_istore_n (q := 5) (lv' := [(2, .int (nI (axSz mb ak cnt))), (0, .ref hx), (1, .ref h)]) C rfl dX0_appendTo_4 rfl (by decide) rfl ?_
  refine z_iconst (q := 6) C k_iconst_0 dX0_appendTo_5 rfl ?_
  refine z_istore_n (q := 7) (lv' := [(3, .int (nI 0)), (2, .int (nI (axSz mb ak cnt))), (0, .ref hx), (1, .ref h)]) C rfl dX0_appendTo_6 rfl (by decide) rfl ?_
  refine z_lv [2, 3, 1, 0] rfl ?_
  refine z_ws (ws' := [(hx, .inr (0, [.int (zb mb), .int (zb ak), .int (nI cnt)])), (h, .inr (3, [.ref (a 0), .ref (a 1), .ref (a 2), .ref (a 3), .ref (a 4), .ref (a 5), .ref (a 6), .ref (a 7), .ref (a 8), .int (nI n), .int (zb ov), .int am])), (a 0, .inl (X.cI, 600, .inl (F 0))), (a 1, .inl (X.cI, 600, .inl (F 1))), (a 2, .inl (X.cI, 600, .inl (F 2))), (a 3, .inl (X.cI, 600, .inl (F 3))), (a 4, .inl (X.cI, 600, .inl (F 4))), (a 5, .inl (X.cI, 600, .inl (F 5))), (a 6, .inl (X.cI, 600, .inl (F 6))), (a 7, .inl (X.cI, 1024, .inl (F 7))), (a 8, .inl (X.cZ, 600, .inl (F 8)))]) [10, 0, 1, 2, 3, 4, 5, 6, 7, 8, 9] (by decide) rfl ?_
  exact l_X0_appendTo hx mb ak cnt hc h a am S C E hZ (axSz mb ak cnt + 1) 0 F n ov (by omega) (by omega) hR
end
section
/-! making: arrays, objects, constructors -/
section ZM
variable {X : zX} {cc : ByteArray} {nL : Nat} {own : String} {Ts : List Cond} {Rm : Room} {ws : va_W} {n1 n2 m1 m2 pc q mc ms : Nat} {lv lv' : List (Nat × Value)} {st : List Value} {post : Option Value → va_W → Prop} {t : Nat × Nat}
theorem z_newI (C : zC X cc nL own Ts Rm) {N : Nat} (harr : Cond.arrayClass .int ∈ Ts) (hN : N < 100000) (hcells : n1 + 1 ≤ Rm.cells) (hslots : n2 + N ≤ Rm.slots) (hd : decode cc pc = .ok (.newarray .int, 2)) (hq : pc + 2 = q) (hm1 : n1 + 1 = m1) (hm2 : n2 + N = m2) (k : ∀ q0 : Nat, zW X nL (ws ++ [(q0, .inl (X.cI, N, .inl (fun _ => 0)))]) m1 m2 q lv (.ref q0 :: st)) : zW X nL ws n1 n2 pc lv (.int (nI N) :: st) := by
  subst hq hm1 hm2
  intro H locs ls hP hD hS hl
  refine va_newa (atype := .int) C.x C.b (C.ts _ harr) rfl C.k hP hD hS C.a (a0 := (N, .inl (fun _ => 0))) (fun cA => rfl) (nI_pos (by omega)) (nI_clamp (by omega)) (by show N * 4 ≤ _; omega) (by rw [C.r]; exact hcells) (by rw [C.r]; exact hslots) hd (fun q0 cA H1 hK hP1 hD1 hS1 => ?_)
  have e1 : X.s.vm.findClass ("[" ++ FieldType.int.toString) = some cA := (hK.2 3 (cA, .int) rfl).2
  have e2 : X.s.vm.findClass ("[" ++ FieldType.int.toString) = some X.cI := (C.k.2 0 (X.cI, .int) rfl).2
  obtain rfl : cA = X.cI := Option.some.inj (e1.symm.trans e2)
  exact k q0 H1 locs ls hP1 hD1 hS1 hl
theorem z_newZ (C : zC X cc nL own Ts Rm) {N : Nat} (harr : Cond.arrayClass .boolean ∈ Ts) (hN : N < 100000) (hcells : n1 + 1 ≤ Rm.cells) (hslots : n2 + N ≤ Rm.slots) (hd : decode cc pc = .ok (.newarray .boolean, 2)) (hq : pc + 2 = q) (hm1 : n1 + 1 = m1) (hm2 : n2 + N = m2) (k : ∀ q0 : Nat, zW X nL (ws ++ [(q0, .inl (X.cZ, N, .inl (fun _ => 0)))]) m1 m2 q lv (.ref q0 :: st)) : zW X nL ws n1 n2 pc lv (.int (nI N) :: st) := by
  subst hq hm1 hm2
  intro H locs ls hP hD hS hl
  refine va_newa (atype := .boolean) C.x C.b (C.ts _ harr) rfl C.k hP hD hS C.a (a0 := (N, .inl (fun _ => 0))) (fun cA => rfl) (nI_pos (by omega)) (nI_clamp (by omega)) (by show N * 1 ≤ _; omega) (by rw [C.r]; exact hcells) (by rw [C.r]; exact hslots) hd (fun q0 cA H1 hK hP1 hD1 hS1 => ?_)
  have e1 : X.s.vm.findClass ("[" ++ FieldType.boolean.toString) = some cA := (hK.2 3 (cA, .boolean) rfl).2
  have e2 : X.s.vm.findClass ("[" ++ FieldType.boolean.toString) = some X.cZ := (C.k.2 1 (X.cZ, .boolean) rfl).2
  obtain rfl : cA = X.cZ := Option.some.inj (e1.symm.trans e2)
  exact k q0 H1 locs ls hP1 hD1 hS1 hl
theorem z_newJ (C : zC X cc nL own Ts Rm) {N : Nat} (harr : Cond.arrayClass .long ∈ Ts) (hN : N < 100000) (hcells : n1 + 1 ≤ Rm.cells) (hslots : n2 + N ≤ Rm.slots) (hd : decode cc pc = .ok (.newarray .long, 2)) (hq : pc + 2 = q) (hm1 : n1 + 1 = m1) (hm2 : n2 + N = m2) (k : ∀ q0 : Nat, zW X nL (ws ++ [(q0, .inl (X.cJ, N, .inr (.inl (fun _ => 0))))]) m1 m2 q lv (.ref q0 :: st)) : zW X nL ws n1 n2 pc lv (.int (nI N) :: st) := by
  subst hq hm1 hm2
  intro H locs ls hP hD hS hl
  refine va_newa (atype := .long) C.x C.b (C.ts _ harr) rfl C.k hP hD hS C.a (a0 := (N, .inr (.inl (fun _ => 0)))) (fun cA => rfl) (nI_pos (by omega)) (nI_clamp (by omega)) (by show N * 8 ≤ _; omega) (by rw [C.r]; exact hcells) (by rw [C.r]; exact hslots) hd (fun q0 cA H1 hK hP1 hD1 hS1 => ?_)
  have e1 : X.s.vm.findClass ("[" ++ FieldType.long.toString) = some cA := (hK.2 3 (cA, .long) rfl).2
  have e2 : X.s.vm.findClass ("[" ++ FieldType.long.toString) = some X.cJ := (C.k.2 2 (X.cJ, .long) rfl).2
  obtain rfl : cA = X.cJ := Option.some.inj (e1.symm.trans e2)
  exact k q0 H1 locs ls hP1 hD1 hS1 hl
theorem z_new (C : zC X cc nL own Ts Rm) {C0 : String} {T : u_T} {N ci index : Nat} {ty : Nat → FieldType} {fs : List Value} (hin : ∀ w ∈ u_ws C0 T N, w ∈ Ts) (hty : ∀ k, k < N → parseFieldDescriptor (T k).2.2.1 = some (ty k)) (hcl : Cond.classLink own index C0 ∈ Ts) (hinst : Cond.instantiable C0 N ∈ Ts) (hini : Cond.initialized C0 ∈ Ts) (hc : vwCl[ci]? = some (C0, T, N)) (hfs : ∀ j, j < N → defaultValue (ty j) = vp_V fs j) (hcells : n1 + 1 ≤ Rm.cells) (hslots : n2 + N ≤ Rm.slots) (hd : decode cc pc = .ok (.new index, 3)) (hq : pc + 3 = q) (hm1 : n1 + 1 = m1) (hm2 : n2 + N = m2)
    (k : ∀ q0 : Nat, zW X nL (ws ++ [(q0, .inr (ci, fs))]) m1 m2 q lv (.ref q0 :: st)) : zW X nL ws n1 n2 pc lv st := by
  subst hq hm1 hm2
  intro H locs ls hP hD hS hl
  exact va_new C.x C.b C.ts hin ty hty C.ow (C.ts _ hcl) (C.ts _ hinst) (C.ts _ hini) C.k hP hD hS C.a hc hfs (by rw [C.r]; exact hcells) (by rw [C.r]; exact hslots) hd (fun q0 H1 hP1 hD1 hS1 => k q0 H1 locs ls hP1 hD1 hS1 hl)
theorem z_objInit (C : zC X cc nL own Ts Rm) {idx a : Nat} (hl0 : Cond.methodLink own idx objectInit ∈ Ts) (hi : Cond.instanceMethod objectInit ∈ Ts) (hcd : Cond.code objectInit ⟨#[0xb1]⟩ 1 none ∈ Ts) (hfr : 1 ≤ Rm.frames) (hlo : 2 * 0 + (st.map fun v => v.category).sum + 12 ≤ Rm.locals) (hd : decode cc pc = .ok (.invokespecial idx, 3)) (hq : pc + 3 = q) (k : zW X nL ws n1 n2 q lv st) : zW X nL ws n1 n2 pc lv (.ref a :: st) := by
  subst hq
  intro H locs ls hP hD hS hl
  exact W.objInit C.x C.b C.ow (C.ts _ hl0) (C.ts _ hi) (C.ts _ hcd) rfl (by rw [C.ml]; exact hl.1) rfl hd (by rw [C.r]; exact hfr) (by rw [C.r]; exact hlo) (k H locs ls hP hD hS hl)
theorem z_callI (C : zC X cc nL own Ts Rm) {y : MethodName} {bytes : ByteArray} {maxL n index : Nat} {wsC wsC' : List Cond} {rmC : Room} {b : Nat} {As rest : List Value} {wc wr : va_W} (hM : zM X.l y wsC rmC X.D X.2.1 (.ref b :: As) wc mc ms post) (hG : GoodIn Ts wsC) (hws : wsC = .code y bytes maxL none :: wsC') (hrc : rmC.cells = mc) (hrs : rmC.slots = ms) (hini : Cond.initialized y.cls ∈ Ts) (hml : Cond.methodLink own index y ∈ Ts) (him : Cond.instanceMethod y ∈ Ts) (hy1 : y.name = "<init>")
    (hcl : y.cls ≠ "java/lang/invoke/MethodHandle" ∧ y.cls ≠ "java/lang/invoke/VarHandle" ∧ (parseMethodDescriptor y.desc).map (fun d => d.parameters.length) = some n) (hroom : rmC.frames + 1 ≤ Rm.frames ∧ 8 + (maxL + 11) + rmC.locals ≤ Rm.locals) (hcells : n1 + mc ≤ Rm.cells ∧ n2 + ms ≤ Rm.slots)
    (isC isR : List Nat) (hC : isC.map (fun i => ws[i]?) = wc.map some) (hR : isR.map (fun i => ws[i]?) = wr.map some) (hnC : va_nd isC = true) (hn : va_nd isR = true) (hdis : ∀ i ∈ isR, i ∉ isC)
    (hAs : As.length = n) (hst : st = As.reverse ++ .ref b :: rest) (hcat : (rest.map fun v => v.category).sum ≤ 8) (hd : decode cc pc = .ok (.invokespecial index, 3)) (hq : pc + 3 = q)
    (k : ∀ (v : Option Value) (w1 : va_W), post v w1 → zW X nL (wr ++ w1) (n1 + mc) (n2 + ms) q lv (v.toList ++ rest)) : zW X nL ws n1 n2 pc lv st := by
  refine z_back (y := y) (wc := wc) (wr := wr) (rest := rest) (a := (Value.ref b :: As).toArray) ?_ C.a isC isR hC hR hn hdis hq k
  intro H locs ls hP hD hS hFc hl
  have hPc : va_P X.D vwCl wc H := fun j x hx => by
    have h1 : (isC.map (fun i => ws[i]?))[j]? = some (some x) := by rw [hC, List.getElem?_map, hx]; rfl
    rw [List.getElem?_map] at h1
    cases hi : isC[j]? with
    | none => rw [hi] at h1; cases h1
    | some i => rw [hi] at h1; exact hP i x (Option.some.inj h1)
  have hDc := hD.sub isC hnC hC
  exact va_runI (As := As) (rest := rest) ⟨C.x, C.b, C.ml, C.ow, C.ts⟩ (hM H.size) (cwI n C.ts hG hws hrc hrs (C.ts _ hini) (C.ts _ hml) (C.ts _ him) hy1 hcl (by rw [C.r]; exact hroom)) ⟨zPre_blind _ _ _ _ _, fun U hU hW => ⟨rfl, by rw [hU], by rw [hU]; exact hPc, va_K.moved hW.alike C.k, hDc.weaken (fun _ _ _ _ => trivial)⟩⟩ rfl hAs hl.1 hst (lv_room hcat) hd (by rw [C.r]; exact hcells)
/-- a constructor of a nest mate -/
theorem z_callIN (C : zC X cc nL own Ts Rm) {host : String} {y : MethodName} {bytes : ByteArray} {maxL n index : Nat} {wsC wsC' : List Cond} {rmC : Room} {b : Nat} {As rest : List Value} {wc wr : va_W} (hM : zM X.l y wsC rmC X.D X.2.1 (.ref b :: As) wc mc ms post) (hG : GoodIn Ts wsC) (hws : wsC = .code y bytes maxL none :: wsC') (hrc : rmC.cells = mc) (hrs : rmC.slots = ms) (hini : Cond.initialized y.cls ∈ Ts) (hnw : va_Nw (.methodLinkNest own index y host) X.s) (him : Cond.instanceMethod y ∈ Ts) (hy1 : y.name = "<init>")
    (hcl : y.cls ≠ "java/lang/invoke/MethodHandle" ∧ y.cls ≠ "java/lang/invoke/VarHandle" ∧ (parseMethodDescriptor y.desc).map (fun d => d.parameters.length) = some n) (hroom : rmC.frames + 1 ≤ Rm.frames ∧ 8 + (maxL + 11) + rmC.locals ≤ Rm.locals) (hcells : n1 + mc ≤ Rm.cells ∧ n2 + ms ≤ Rm.slots)
    (isC isR : List Nat) (hC : isC.map (fun i => ws[i]?) = wc.map some) (hR : isR.map (fun i => ws[i]?) = wr.map some) (hnC : va_nd isC = true) (hn : va_nd isR = true) (hdis : ∀ i ∈ isR, i ∉ isC)
    (hAs : As.length = n) (hst : st = As.reverse ++ .ref b :: rest) (hcat : (rest.map fun v => v.category).sum ≤ 8) (hd : decode cc pc = .ok (.invokespecial index, 3)) (hq : pc + 3 = q)
    (k : ∀ (v : Option Value) (w1 : va_W), post v w1 → zW X nL (wr ++ w1) (n1 + mc) (n2 + ms) q lv (v.toList ++ rest)) : zW X nL ws n1 n2 pc lv st := by
  refine z_back (y := y) (wc := wc) (wr := wr) (rest := rest) (a := (Value.ref b :: As).toArray) ?_ C.a isC isR hC hR hn hdis hq k
  intro H locs ls hP hD hS hFc hl
  have hPc : va_P X.D vwCl wc H := fun j x hx => by
    have h1 : (isC.map (fun i => ws[i]?))[j]? = some (some x) := by rw [hC, List.getElem?_map, hx]; rfl
    rw [List.getElem?_map] at h1
    cases hi : isC[j]? with
    | none => rw [hi] at h1; cases h1
    | some i => rw [hi] at h1; exact hP i x (Option.some.inj h1)
  have hDc := hD.sub isC hnC hC
  exact va_runIN (As := As) (rest := rest) ⟨C.x, C.b, C.ml, C.ow, C.ts⟩ (hM H.size) ⟨va_cnB n C.ts hG hws hrc hrs hnw (C.ts _ hini) hcl (by rw [C.r]; exact hroom), hy1, C.ts _ him⟩ ⟨zPre_blind _ _ _ _ _, fun U hU hW => ⟨rfl, by rw [hU], by rw [hU]; exact hPc, va_K.moved hW.alike C.k, hDc.weaken (fun _ _ _ _ => trivial)⟩⟩ rfl hAs hl.1 hst (lv_room hcat) hd (by rw [C.r]; exact hcells)
end ZM
end
section
theorem dJ7_fill_53178_0 : decode cJ7_fill_53178 0 = .ok (.iconst 0, 1) := by decide +kernel
theorem dJ7_fill_53178_1 : decode cJ7_fill_53178 1 = .ok (.istore_n 2, 1) := by decide +kernel
theorem dJ7_fill_53178_2 : decode cJ7_fill_53178 2 = .ok (.aload_n 0, 1) := by decide +kernel
theorem dJ7_fill_53178_3 : decode cJ7_fill_53178 3 = .ok (.arraylength, 1) := by decide +kernel
theorem dJ7_fill_53178_4 : decode cJ7_fill_53178 4 = .ok (.istore_n 3, 1) := by decide +kernel
theorem dJ7_fill_53178_5 : decode cJ7_fill_53178 5 = .ok (.iload_n 2, 1) := by decide +kernel
theorem dJ7_fill_53178_6 : decode cJ7_fill_53178 6 = .ok (.iload_n 3, 1) := by decide +kernel
theorem dJ7_fill_53178_7 : decode cJ7_fill_53178 7 = .ok (.if_icmp .ge 13, 3) := by decide +kernel
theorem dJ7_fill_53178_10 : decode cJ7_fill_53178 10 = .ok (.aload_n 0, 1) := by decide +kernel
theorem dJ7_fill_53178_11 : decode cJ7_fill_53178 11 = .ok (.iload_n 2, 1) := by decide +kernel
theorem dJ7_fill_53178_12 : decode cJ7_fill_53178 12 = .ok (.iload_n 1, 1) := by decide +kernel
theorem dJ7_fill_53178_13 : decode cJ7_fill_53178 13 = .ok (.iastore, 1) := by decide +kernel
theorem dJ7_fill_53178_14 : decode cJ7_fill_53178 14 = .ok (.iinc 2 1, 3) := by decide +kernel
theorem dJ7_fill_53178_17 : decode cJ7_fill_53178 17 = .ok (.goto (-12), 3) := by decide +kernel
theorem dJ7_fill_53178_20 : decode cJ7_fill_53178 20 = .ok (.return_, 1) := by decide +kernel
end
section
set_option maxHeartbeats 4000000 in
set_option maxRecDepth 100000 in
theorem l_J7_fill {X : zX} (a n : Nat) (hn : n < 100000) (x : Int32) (C : zC X cJ7_fill_53178 4 RJ7 wsJ7_fill_53178 ({ frames := 0, cells := 0, slots := 0, locals := 0 } : Room)) (E : zE X none 0 0 (fun v w1 => ∃ f1 : Nat → Int32, (∀ i, i < n → f1 i = x) ∧ v = none ∧ w1 = [(a, .inl (X.cI, n, .inl f1))])) : ∀ (m : Nat) (i : Nat) (g : Nat → Int32), i ≤ n → n < i + m → (∀ e, e < i → g e = x) → zW X 4 [(a, .inl (X.cI, n, .inl g))] 0 0 5 [(0, .ref a), (1, .int x), (2, .int (nI i)), (3, .int (nI n))] [] := by
  intro m
  induction m with
  | zero =>
    intro i g hi hm hg
    exfalso
    omega
  | succ m ih =>
    intro i g hi hm hg
    refine z_iload_n (q := 6) C 2 rfl rfl dJ7_fill_53178_5 rfl ?_
    refine z_iload_n (q := 7) C 3 rfl rfl dJ7_fill_53178_6 rfl ?_
    refine z_icmp_ge_n (q := 10) (tgt := 20) C (by omega) (by omega) dJ7_fill_53178_7 (by decide) rfl (fun c7 => ?_) (fun c7 => ?_)
    · skip
      refine z_vret C E (by omega) (by omega) dJ7_fill_53178_20 ?_
      exact ⟨g, fun e he => hg e (by omega), rfl, rfl⟩
    · skip
      refine z_aload_n (q := 11) C 0 rfl rfl dJ7_fill_53178_10 rfl ?_
      refine z_iload_n (q := 12) C 2 rfl rfl dJ7_fill_53178_11 rfl ?_
      refine z_iload_n (q := 13) C 1 rfl rfl dJ7_fill_53178_12 rfl ?_
      refine z_iast (q := 14) (ws' := [(a, .inl (X.cI, n, .inl (upd g i x)))]) C 0 rfl (i := i) (by omega) (by omega) dJ7_fill_53178_13 rfl rfl ?_
      refine z_iinc (q := 17) (v := nI (i + 1)) (lv' := [(2, .int (nI (i + 1))), (0, .ref a), (1, .int x), (3, .int (nI n))]) C 2 dJ7_fill_53178_14 rfl rfl (k_inc1 i) (by decide) rfl ?_
      refine z_goto (tgt := 5) C dJ7_fill_53178_17 (by decide) ?_
      refine z_lv [1, 2, 0, 3] rfl ?_
      exact ih (i + 1) (upd g i x) (by omega) (by omega) (fun e he => by show (if e = i then x else g e) = x; split; rfl; exact hg e (by omega))

set_option maxHeartbeats 4000000 in
set_option maxRecDepth 100000 in
theorem c_J7_fill_53178 (l : Launch) (D : va_G) (g : ClassId × ClassId × ClassId) (a n : Nat) (hn : n < 100000) (f : Nat → Int32) (x : Int32) : zM l yJ7_fill_53178 wsJ7_fill_53178 ({ frames := 0, cells := 0, slots := 0, locals := 0 } : Room) D g [.ref a, .int x] [(a, .inl (g.1, n, .inl f))] 0 0 (fun v w1 => ∃ f1 : Nat → Int32, (∀ i, i < n → f1 i = x) ∧ v = none ∧ w1 = [(a, .inl (g.1, n, .inl f1))]) := by
  refine z_met (cc := cJ7_fill_53178) (maxL := 4) (ret := none) (lv := [(0, .ref a), (1, .int x)]) (by decide) rfl (Nat.le_of_ble_eq_true rfl) rfl ?_
  intro X hXD hXg hXl hnm C E
  subst hXD hXg hXl
  have C : zC X cJ7_fill_53178 4 RJ7 wsJ7_fill_53178 ({ frames := 0, cells := 0, slots := 0, locals := 0 } : Room) := C
  refine z_iconst (q := 1) C k_iconst_0 dJ7_fill_53178_0 rfl ?_
  refine z_istore_n (q := 2) (lv' := [(2, .int (nI 0)), (0, .ref a), (1, .int x)]) C rfl dJ7_fill_53178_1 rfl (by decide) rfl ?_
  refine z_aload_n (q := 3) C 1 rfl rfl dJ7_fill_53178_2 rfl ?_
  refine z_alen (q := 4) C 0 rfl dJ7_fill_53178_3 rfl ?_
  refine z_istore_n (q := 5) (lv' := [(3, .int (nI n)), (2, .int (nI 0)), (0, .ref a), (1, .int x)]) C rfl dJ7_fill_53178_4 rfl (by decide) rfl ?_
  refine z_lv [2, 3, 1, 0] rfl ?_
  exact l_J7_fill a n hn x C E (n + 1) 0 f (by omega) (by omega) (fun e he => absurd he (Nat.not_lt_zero e))

def set7 (F : Nat → Nat → Int32) (f : Nat → Int32) : Nat → Nat → Int32 := fun k => match k with
  | 7 => f
  | m => F m
theorem rowsRep.empty {F : Nat → Nat → Int32} (h : ∀ k, k < 1024 → F 7 k = (-1)) : rowsRep F 0 false ([], false) :=
  ⟨rfl, by omega, rfl, (fun e => by cases e), fun i j hi => absurd hi (Nat.not_lt_zero i), fun k hk => Or.inl (h k hk), fun k k' hk _ _ e => absurd (h k hk) e, fun j hj => absurd hj (Nat.not_lt_zero j), fun i j hi => absurd hi (Nat.not_lt_zero i)⟩

set_option maxHeartbeats 4000000 in
set_option maxRecDepth 100000 in
theorem c_X3_restart (l : Launch) (D : va_G) (g : ClassId × ClassId × ClassId) (h : Nat) (a : Nat → Nat) (F : Nat → Nat → Int32) (n ov am am1 : Int32) : zM l yX3_restart wsX3_restart ({ frames := 1, cells := 0, slots := 0, locals := 23 } : Room) D g [.ref h, .int am1] [(h, .inr (3, [.ref (a 0), .ref (a 1), .ref (a 2), .ref (a 3), .ref (a 4), .ref (a 5), .ref (a 6), .ref (a 7), .ref (a 8), .int n, .int ov, .int am])), (a 0, .inl (g.1, 600, .inl (F 0))), (a 1, .inl (g.1, 600, .inl (F 1))), (a 2, .inl (g.1, 600, .inl (F 2))), (a 3, .inl (g.1, 600, .inl (F 3))), (a 4, .inl (g.1, 600, .inl (F 4))), (a 5, .inl (g.1, 600, .inl (F 5))), (a 6, .inl (g.1, 600, .inl (F 6))), (a 7, .inl (g.1, 1024, .inl (F 7))), (a 8, .inl (g.2.1, 600, .inl (F 8)))] 0 0 (fun v w1 => ∃ F1 : Nat → Nat → Int32, rowsRep F1 0 false ([], false) ∧ v = none ∧ w1 = [(h, .inr (3, [.ref (a 0), .ref (a 1), .ref (a 2), .ref (a 3), .ref (a 4), .ref (a 5), .ref (a 6), .ref (a 7), .ref (a 8), .int (nI 0), .int (zb false), .int am1])), (a 0, .inl (g.1, 600, .inl (F1 0))), (a 1, .inl (g.1, 600, .inl (F1 1))), (a 2, .inl (g.1, 600, .inl (F1 2))), (a 3, .inl (g.1, 600, .inl (F1 3))), (a 4, .inl (g.1, 600, .inl (F1 4))), (a 5, .inl (g.1, 600, .inl (F1 5))), (a 6, .inl (g.1, 600, .inl (F1 6))), (a 7, .inl (g.1, 1024, .inl (F1 7))), (a 8, .inl (g.2.1, 600, .inl (F1 8)))]) := by
  refine z_met (cc := cX3_restart) (maxL := 2) (ret := none) (lv := [(0, .ref h), (1, .int am1)]) (by decide) rfl (Nat.le_of_ble_eq_true rfl) rfl ?_
  intro X hXD hXg hXl hnm C E
  subst hXD hXg hXl
  have C : zC X cX3_restart 2 RX3 wsX3_restart ({ frames := 1, cells := 0, slots := 0, locals := 23 } : Room) := C
  have hiX3 : ∀ w ∈ u_ws RX3 TX3 12, w ∈ wsX3_restart := by decide +kernel
  have hf33 : Cond.fieldLink RX3 33 "RdfsRules$Rows" "rowAtSlot" "[I" ∈ wsX3_restart := by decide +kernel
  have hf40 : Cond.fieldLink RX3 40 "RdfsRules$Rows" "size" "I" ∈ wsX3_restart := by decide +kernel
  have hf44 : Cond.fieldLink RX3 44 "RdfsRules$Rows" "overfull" "Z" ∈ wsX3_restart := by decide +kernel
  have hf48 : Cond.fieldLink RX3 48 "RdfsRules$Rows" "axiomMemberships" "I" ∈ wsX3_restart := by decide +kernel
  refine z_aload_n (q := 1) C 0 rfl rfl dX3_restart_0 rfl ?_
  refine z_get (q := 4) (v := .ref (a 7)) C hiX3 0 7 rfl rfl (by decide) hf33 rfl dX3_restart_1 rfl ?_
  refine z_iconst (q := 5) C k_iconst_m1 dX3_restart_4 rfl ?_
  refine z_callS (q := 8) (n := 2) (As := [.ref (a 7), .int (-1)]) (rest := []) (wr := [(h, .inr (3, [.ref (a 0), .ref (a 1), .ref (a 2), .ref (a 3), .ref (a 4), .ref (a 5), .ref (a 6), .ref (a 7), .ref (a 8), .int n, .int ov, .int am])), (a 0, .inl (X.cI, 600, .inl (F 0))), (a 1, .inl (X.cI, 600, .inl (F 1))), (a 2, .inl (X.cI, 600, .inl (F 2))), (a 3, .inl (X.cI, 600, .inl (F 3))), (a 4, .inl (X.cI, 600, .inl (F 4))), (a 5, .inl (X.cI, 600, .inl (F 5))), (a 6, .inl (X.cI, 600, .inl (F 6))), (a 8, .inl (X.cZ, 600, .inl (F 8)))]) C (c_J7_fill_53178 X.l X.D X.2.1 (a 7) 1024 (by decide) (F 7) (-1)) gX3_restart_J7_fill_53178 rfl rfl rfl (by decide +kernel) (by decide) ⟨by first | decide | omega, by first | decide | omega⟩ [8] [0, 1, 2, 3, 4, 5, 6, 7, 9] rfl rfl (by decide) (by decide) (by decide) rfl rfl (Nat.le_of_ble_eq_true rfl) dX3_restart_5 rfl (fun v w1 hp => ?_)
  obtain ⟨f1, hf1, rfl, rfl⟩ := hp
  show zW X 2 [(h, .inr (3, [.ref (a 0), .ref (a 1), .ref (a 2), .ref (a 3), .ref (a 4), .ref (a 5), .ref (a 6), .ref (a 7), .ref (a 8), .int n, .int ov, .int am])), (a 0, .inl (X.cI, 600, .inl (F 0))), (a 1, .inl (X.cI, 600, .inl (F 1))), (a 2, .inl (X.cI, 600, .inl (F 2))), (a 3, .inl (X.cI, 600, .inl (F 3))), (a 4, .inl (X.cI, 600, .inl (F 4))), (a 5, .inl (X.cI, 600, .inl (F 5))), (a 6, .inl (X.cI, 600, .inl (F 6))), (a 8, .inl (X.cZ, 600, .inl (F 8))), (a 7, .inl (X.cI, 1024, .inl f1))] _ _ 8 _ []
  refine z_ws (ws' := [(h, .inr (3, [.ref (a 0), .ref (a 1), .ref (a 2), .ref (a 3), .ref (a 4), .ref (a 5), .ref (a 6), .ref (a 7), .ref (a 8), .int n, .int ov, .int am])), (a 0, .inl (X.cI, 600, .inl (F 0))), (a 1, .inl (X.cI, 600, .inl (F 1))), (a 2, .inl (X.cI, 600, .inl (F 2))), (a 3, .inl (X.cI, 600, .inl (F 3))), (a 4, .inl (X.cI, 600, .inl (F 4))), (a 5, .inl (X.cI, 600, .inl (F 5))), (a 6, .inl (X.cI, 600, .inl (F 6))), (a 7, .inl (X.cI, 1024, .inl f1)), (a 8, .inl (X.cZ, 600, .inl (F 8)))]) [0, 1, 2, 3, 4, 5, 6, 7, 9, 8] (by decide) rfl ?_
  refine z_aload_n (q := 9) C 0 rfl rfl dX3_restart_8 rfl ?_
  refine z_iconst (q := 10) C k_iconst_0 dX3_restart_9 rfl ?_
  refine z_put (q := 13) (ws' := [(h, .inr (3, [.ref (a 0), .ref (a 1), .ref (a 2), .ref (a 3), .ref (a 4), .ref (a 5), .ref (a 6), .ref (a 7), .ref (a 8), .int (nI 0), .int ov, .int am])), (a 0, .inl (X.cI, 600, .inl (F 0))), (a 1, .inl (X.cI, 600, .inl (F 1))), (a 2, .inl (X.cI, 600, .inl (F 2))), (a 3, .inl (X.cI, 600, .inl (F 3))), (a 4, .inl (X.cI, 600, .inl (F 4))), (a 5, .inl (X.cI, 600, .inl (F 5))), (a 6, .inl (X.cI, 600, .inl (F 6))), (a 7, .inl (X.cI, 1024, .inl f1)), (a 8, .inl (X.cZ, 600, .inl (F 8)))]) C hiX3 tyX3_ok nmX3 0 9 rfl rfl (by decide) hf40 rfl rfl rfl (Nat.le_of_ble_eq_true rfl) dX3_restart_10 rfl rfl ?_
  refine z_aload_n (q := 14) C 0 rfl rfl dX3_restart_13 rfl ?_
  refine z_iconst (q := 15) C k_iconst_0 dX3_restart_14 rfl ?_
  refine z_put (q := 18) (ws' := [(h, .inr (3, [.ref (a 0), .ref (a 1), .ref (a 2), .ref (a 3), .ref (a 4), .ref (a 5), .ref (a 6), .ref (a 7), .ref (a 8), .int (nI 0), .int (nI 0), .int am])), (a 0, .inl (X.cI, 600, .inl (F 0))), (a 1, .inl (X.cI, 600, .inl (F 1))), (a 2, .inl (X.cI, 600, .inl (F 2))), (a 3, .inl (X.cI, 600, .inl (F 3))), (a 4, .inl (X.cI, 600, .inl (F 4))), (a 5, .inl (X.cI, 600, .inl (F 5))), (a 6, .inl (X.cI, 600, .inl (F 6))), (a 7, .inl (X.cI, 1024, .inl f1)), (a 8, .inl (X.cZ, 600, .inl (F 8)))]) C hiX3 tyX3_ok nmX3 0 10 rfl rfl (by decide) hf44 rfl (by decide) (by decide) (Nat.le_of_ble_eq_true rfl) dX3_restart_15 rfl rfl ?_
  refine z_aload_n (q := 19) C 0 rfl rfl dX3_restart_18 rfl ?_
  refine z_iload_n (q := 20) C 1 rfl rfl dX3_restart_19 rfl ?_
  refine z_put (q := 23) (ws' := [(h, .inr (3, [.ref (a 0), .ref (a 1), .ref (a 2), .ref (a 3), .ref (a 4), .ref (a 5), .ref (a 6), .ref (a 7), .ref (a 8), .int (nI 0), .int (nI 0), .int am1])), (a 0, .inl (X.cI, 600, .inl (F 0))), (a 1, .inl (X.cI, 600, .inl (F 1))), (a 2, .inl (X.cI, 600, .inl (F 2))), (a 3, .inl (X.cI, 600, .inl (F 3))), (a 4, .inl (X.cI, 600, .inl (F 4))), (a 5, .inl (X.cI, 600, .inl (F 5))), (a 6, .inl (X.cI, 600, .inl (F 6))), (a 7, .inl (X.cI, 1024, .inl f1)), (a 8, .inl (X.cZ, 600, .inl (F 8)))]) C hiX3 tyX3_ok nmX3 0 11 rfl rfl (by decide) hf48 rfl rfl rfl (Nat.le_of_ble_eq_true rfl) dX3_restart_20 rfl rfl ?_
  refine z_vret C E (by omega) (by omega) dX3_restart_23 ?_
  exact ⟨set7 F f1, rowsRep.empty hf1, rfl, rfl⟩

set_option maxHeartbeats 4000000 in
set_option maxRecDepth 100000 in
theorem c_X4_init (l : Launch) (D : va_G) (g : ClassId × ClassId × ClassId) (h : Nat) : zM l yX4_init wsX4_init ({ frames := 1, cells := 1, slots := 40, locals := 12 } : Room) D g [.ref h] [(h, .inr (4, [.null, .int 0]))] 1 40 (fun v w1 => ∃ a : Nat, v = none ∧ w1 = [(h, .inr (4, [.ref a, .int (nI 0)])), (a, .inl (g.1, 40, .inl (fun _ => 0)))]) := by
  refine z_met (cc := cX4_init) (maxL := 1) (ret := none) (lv := [(0, .ref h)]) (by decide) rfl (Nat.le_of_ble_eq_true rfl) rfl ?_
  intro X hXD hXg hXl hnm C E
  subst hXD hXg hXl
  have C : zC X cX4_init 1 RX4 wsX4_init ({ frames := 1, cells := 1, slots := 40, locals := 12 } : Room) := C
  have hiX4 : ∀ w ∈ u_ws RX4 TX4 2, w ∈ wsX4_init := by decide +kernel
  have hf9 : Cond.fieldLink RX4 9 "RdfsRules$Terms" "literalTypes" "[I" ∈ wsX4_init := by decide +kernel
  have hf15 : Cond.fieldLink RX4 15 "RdfsRules$Terms" "literals" "I" ∈ wsX4_init := by decide +kernel
  have harrI : Cond.arrayClass .int ∈ wsX4_init := by decide +kernel
  have hoi : Cond.methodLink RX4 3 objectInit ∈ wsX4_init := by decide +kernel
  have hom : Cond.instanceMethod objectInit ∈ wsX4_init := by decide +kernel
  have hoc : Cond.code objectInit ⟨#[0xb1]⟩ 1 none ∈ wsX4_init := by decide +kernel
  refine z_aload_n (q := 1) C 0 rfl rfl dX4_init_0 rfl ?_
  refine z_objInit (q := 4) C hoi hom hoc (by decide) (Nat.le_of_ble_eq_true rfl) dX4_init_1 rfl ?_
  refine z_aload_n (q := 5) C 0 rfl rfl dX4_init_4 rfl ?_
  refine z_bipush (q := 7) C k_bipush_40 dX4_init_5 rfl ?_
  refine z_newI (q := 9) (m1 := 1) (m2 := 40) C harrI (by decide) (by decide) (by decide) dX4_init_7 rfl rfl rfl (fun q7 => ?_)
  show zW X 1 [(h, .inr (4, [.null, .int 0])), (q7, .inl (X.cI, 40, .inl (fun _ => 0)))] 1 40 9 _ [.ref q7, .ref h]
  refine z_putF (q := 12) (ws' := [(h, .inr (4, [.ref q7, .int 0])), (q7, .inl (X.cI, 40, .inl (fun _ => 0)))]) C hnm hiX4 tyX4_ok nmX4 0 0 rfl rfl (by decide) hf9 rfl rfl rfl rfl (Nat.le_of_ble_eq_true rfl) dX4_init_9 rfl rfl ?_
  refine z_aload_n (q := 13) C 0 rfl rfl dX4_init_12 rfl ?_
  refine z_iconst (q := 14) C k_iconst_0 dX4_init_13 rfl ?_
  refine z_put (q := 17) (ws' := [(h, .inr (4, [.ref q7, .int (nI 0)])), (q7, .inl (X.cI, 40, .inl (fun _ => 0)))]) C hiX4 tyX4_ok nmX4 0 1 rfl rfl (by decide) hf15 rfl rfl rfl (Nat.le_of_ble_eq_true rfl) dX4_init_14 rfl rfl ?_
  refine z_vret C E (by omega) (by omega) dX4_init_17 ?_
  exact ⟨q7, rfl, rfl⟩

def ad3 (a b c : Nat) : Nat → Nat := fun k => match k with
  | 0 => a
  | 1 => b
  | _ => c
def ad9 (a b c d e f g h i : Nat) : Nat → Nat := fun k => match k with
  | 0 => a
  | 1 => b
  | 2 => c
  | 3 => d
  | 4 => e
  | 5 => f
  | 6 => g
  | 7 => h
  | _ => i

set_option maxHeartbeats 4000000 in
set_option maxRecDepth 100000 in
theorem c_X1_init (l : Launch) (D : va_G) (g : ClassId × ClassId × ClassId) (h : Nat) : zM l yX1_init wsX1_init ({ frames := 1, cells := 3, slots := 240, locals := 12 } : Room) D g [.ref h] [(h, .inr (1, [.null, .null, .null, .int 0]))] 3 240 (fun v w1 => ∃ b : Nat → Nat, v = none ∧ w1 = [(h, .inr (1, [.ref (b 0), .ref (b 1), .ref (b 2), .int (nI 0)])), (b 0, .inl (g.1, 80, .inl (fun _ => 0))), (b 1, .inl (g.1, 80, .inl (fun _ => 0))), (b 2, .inl (g.1, 80, .inl (fun _ => 0)))]) := by
  refine z_met (cc := cX1_init) (maxL := 1) (ret := none) (lv := [(0, .ref h)]) (by decide) rfl (Nat.le_of_ble_eq_true rfl) rfl ?_
  intro X hXD hXg hXl hnm C E
  subst hXD hXg hXl
  have C : zC X cX1_init 1 RX1 wsX1_init ({ frames := 1, cells := 3, slots := 240, locals := 12 } : Room) := C
  have hiX1 : ∀ w ∈ u_ws RX1 TX1 4, w ∈ wsX1_init := by decide +kernel
  have hf9 : Cond.fieldLink RX1 9 "RdfsRules$GivenFacts" "subjects" "[I" ∈ wsX1_init := by decide +kernel
  have hf15 : Cond.fieldLink RX1 15 "RdfsRules$GivenFacts" "properties" "[I" ∈ wsX1_init := by decide +kernel
  have hf18 : Cond.fieldLink RX1 18 "RdfsRules$GivenFacts" "objects" "[I" ∈ wsX1_init := by decide +kernel
  have hf21 : Cond.fieldLink RX1 21 "RdfsRules$GivenFacts" "size" "I" ∈ wsX1_init := by decide +kernel
  have harrI : Cond.arrayClass .int ∈ wsX1_init := by decide +kernel
  have hoi : Cond.methodLink RX1 3 objectInit ∈ wsX1_init := by decide +kernel
  have hom : Cond.instanceMethod objectInit ∈ wsX1_init := by decide +kernel
  have hoc : Cond.code objectInit ⟨#[0xb1]⟩ 1 none ∈ wsX1_init := by decide +kernel
  refine z_aload_n (q := 1) C 0 rfl rfl dX1_init_0 rfl ?_
  refine z_objInit (q := 4) C hoi hom hoc (by decide) (Nat.le_of_ble_eq_true rfl) dX1_init_1 rfl ?_
  refine z_aload_n (q := 5) C 0 rfl rfl dX1_init_4 rfl ?_
  refine z_bipush (q := 7) C k_bipush_80 dX1_init_5 rfl ?_
  refine z_newI (q := 9) (m1 := 1) (m2 := 80) C harrI (by decide) (by decide) (by decide) dX1_init_7 rfl rfl rfl (fun q7 => ?_)
  show zW X 1 [(h, .inr (1, [.null, .null, .null, .int 0])), (q7, .inl (X.cI, 80, .inl (fun _ => 0)))] 1 80 9 _ [.ref q7, .ref h]
  refine z_putF (q := 12) (ws' := [(h, .inr (1, [.ref q7, .null, .null, .int 0])), (q7, .inl (X.cI, 80, .inl (fun _ => 0)))]) C hnm hiX1 tyX1_ok nmX1 0 0 rfl rfl (by decide) hf9 rfl rfl rfl rfl (Nat.le_of_ble_eq_true rfl) dX1_init_9 rfl rfl ?_
  refine z_aload_n (q := 13) C 0 rfl rfl dX1_init_12 rfl ?_
  refine z_bipush (q := 15) C k_bipush_80 dX1_init_13 rfl ?_
  refine z_newI (q := 17) (m1 := 2) (m2 := 160) C harrI (by decide) (by decide) (by decide) dX1_init_15 rfl rfl rfl (fun q15 => ?_)
  show zW X 1 [(h, .inr (1, [.ref q7, .null, .null, .int 0])), (q7, .inl (X.cI, 80, .inl (fun _ => 0))), (q15, .inl (X.cI, 80, .inl (fun _ => 0)))] 2 160 17 _ [.ref q15, .ref h]
  refine z_putF (q := 20) (ws' := [(h, .inr (1, [.ref q7, .ref q15, .null, .int 0])), (q7, .inl (X.cI, 80, .inl (fun _ => 0))), (q15, .inl (X.cI, 80, .inl (fun _ => 0)))]) C hnm hiX1 tyX1_ok nmX1 0 1 rfl rfl (by decide) hf15 rfl rfl rfl rfl (Nat.le_of_ble_eq_true rfl) dX1_init_17 rfl rfl ?_
  refine z_aload_n (q := 21) C 0 rfl rfl dX1_init_20 rfl ?_
  refine z_bipush (q := 23) C k_bipush_80 dX1_init_21 rfl ?_
  refine z_newI (q := 25) (m1 := 3) (m2 := 240) C harrI (by decide) (by decide) (by decide) dX1_init_23 rfl rfl rfl (fun q23 => ?_)
  show zW X 1 [(h, .inr (1, [.ref q7, .ref q15, .null, .int 0])), (q7, .inl (X.cI, 80, .inl (fun _ => 0))), (q15, .inl (X.cI, 80, .inl (fun _ => 0))), (q23, .inl (X.cI, 80, .inl (fun _ => 0)))] 3 240 25 _ [.ref q23, .ref h]
  refine z_putF (q := 28) (ws' := [(h, .inr (1, [.ref q7, .ref q15, .ref q23, .int 0])), (q7, .inl (X.cI, 80, .inl (fun _ => 0))), (q15, .inl (X.cI, 80, .inl (fun _ => 0))), (q23, .inl (X.cI, 80, .inl (fun _ => 0)))]) C hnm hiX1 tyX1_ok nmX1 0 2 rfl rfl (by decide) hf18 rfl rfl rfl rfl (Nat.le_of_ble_eq_true rfl) dX1_init_25 rfl rfl ?_
  refine z_aload_n (q := 29) C 0 rfl rfl dX1_init_28 rfl ?_
  refine z_iconst (q := 30) C k_iconst_0 dX1_init_29 rfl ?_
  refine z_put (q := 33) (ws' := [(h, .inr (1, [.ref q7, .ref q15, .ref q23, .int (nI 0)])), (q7, .inl (X.cI, 80, .inl (fun _ => 0))), (q15, .inl (X.cI, 80, .inl (fun _ => 0))), (q23, .inl (X.cI, 80, .inl (fun _ => 0)))]) C hiX1 tyX1_ok nmX1 0 3 rfl rfl (by decide) hf21 rfl rfl rfl (Nat.le_of_ble_eq_true rfl) dX1_init_30 rfl rfl ?_
  refine z_vret C E (by omega) (by omega) dX1_init_33 ?_
  exact ⟨ad3 q7 q15 q23, rfl, rfl⟩

set_option maxHeartbeats 4000000 in
set_option maxRecDepth 100000 in
theorem c_X0_init (l : Launch) (D : va_G) (g : ClassId × ClassId × ClassId) (h : Nat) (mb : Bool) : zM l yX0_init wsX0_init ({ frames := 1, cells := 0, slots := 0, locals := 12 } : Room) D g [.ref h, .int (zb mb)] [(h, .inr (0, [.int 0, .int 0, .int 0]))] 0 0 (fun v w1 => v = none ∧ w1 = [(h, .inr (0, [.int (zb mb), .int (zb false), .int (nI 9)]))]) := by
  refine z_met (cc := cX0_init) (maxL := 2) (ret := none) (lv := [(0, .ref h), (1, .int (zb mb))]) (by decide) rfl (Nat.le_of_ble_eq_true rfl) rfl ?_
  intro X hXD hXg hXl hnm C E
  subst hXD hXg hXl
  have C : zC X cX0_init 2 RX0 wsX0_init ({ frames := 1, cells := 0, slots := 0, locals := 12 } : Room) := C
  have hiX0 : ∀ w ∈ u_ws RX0 TX0 3, w ∈ wsX0_init := by decide +kernel
  have hf9 : Cond.fieldLink RX0 9 "RdfsRules$Axioms" "asked" "Z" ∈ wsX0_init := by decide +kernel
  have hf15 : Cond.fieldLink RX0 15 "RdfsRules$Axioms" "count" "I" ∈ wsX0_init := by decide +kernel
  have hf19 : Cond.fieldLink RX0 19 "RdfsRules$Axioms" "membershipsBelong" "Z" ∈ wsX0_init := by decide +kernel
  have hoi : Cond.methodLink RX0 3 objectInit ∈ wsX0_init := by decide +kernel
  have hom : Cond.instanceMethod objectInit ∈ wsX0_init := by decide +kernel
  have hoc : Cond.code objectInit ⟨#[0xb1]⟩ 1 none ∈ wsX0_init := by decide +kernel
  refine z_aload_n (q := 1) C 0 rfl rfl dX0_init_0 rfl ?_
  refine z_objInit (q := 4) C hoi hom hoc (by decide) (Nat.le_of_ble_eq_true rfl) dX0_init_1 rfl ?_
  refine z_aload_n (q := 5) C 0 rfl rfl dX0_init_4 rfl ?_
  refine z_iconst (q := 6) C k_iconst_0 dX0_init_5 rfl ?_
  refine z_put (q := 9) (ws' := [(h, .inr (0, [.int 0, .int (nI 0), .int 0]))]) C hiX0 tyX0_ok nmX0 0 1 rfl rfl (by decide) hf9 rfl (by decide) (by decide) (Nat.le_of_ble_eq_true rfl) dX0_init_6 rfl rfl ?_
  refine z_aload_n (q := 10) C 0 rfl rfl dX0_init_9 rfl ?_
  refine z_bipush (q := 12) C k_bipush_9 dX0_init_10 rfl ?_
  refine z_put (q := 15) (ws' := [(h, .inr (0, [.int 0, .int (nI 0), .int (nI 9)]))]) C hiX0 tyX0_ok nmX0 0 2 rfl rfl (by decide) hf15 rfl rfl rfl (Nat.le_of_ble_eq_true rfl) dX0_init_12 rfl rfl ?_
  refine z_aload_n (q := 16) C 0 rfl rfl dX0_init_15 rfl ?_
  refine z_iload_n (q := 17) C 1 rfl rfl dX0_init_16 rfl ?_
  refine z_putF (q := 20) (ws' := [(h, .inr (0, [.int (zb mb), .int (nI 0), .int (nI 9)]))]) C hnm hiX0 tyX0_ok nmX0 0 0 rfl rfl (by decide) hf19 rfl rfl (zb_nar _) (zb_fit _) (Nat.le_of_ble_eq_true rfl) dX0_init_17 rfl rfl ?_
  refine z_vret C E (by omega) (by omega) dX0_init_20 ?_
  exact ⟨rfl, rfl⟩

set_option maxHeartbeats 4000000 in
set_option maxRecDepth 100000 in
theorem c_X2_init (l : Launch) (D : va_G) (g : ClassId × ClassId × ClassId) (h ht hq : Nat) : zM l yX2_init wsX2_init ({ frames := 1, cells := 0, slots := 0, locals := 12 } : Room) D g [.ref h, .ref ht, .ref hq] [(h, .inr (2, [.null, .null, .int 0, .int 0, .int 0, .int 0, .int 0, .int 0]))] 0 0 (fun v w1 => v = none ∧ w1 = [(h, .inr (2, [.ref ht, .ref hq, .int (nI 0), .int (nI 0), .int (nI 0), .int (nI 0), .int (-1), .int (-1)]))]) := by
  refine z_met (cc := cX2_init) (maxL := 3) (ret := none) (lv := [(0, .ref h), (1, .ref ht), (2, .ref hq)]) (by decide) rfl (Nat.le_of_ble_eq_true rfl) rfl ?_
  intro X hXD hXg hXl hnm C E
  subst hXD hXg hXl
  have C : zC X cX2_init 3 RX2 wsX2_init ({ frames := 1, cells := 0, slots := 0, locals := 12 } : Room) := C
  have hiX2 : ∀ w ∈ u_ws RX2 TX2 8, w ∈ wsX2_init := by decide +kernel
  have hf9 : Cond.fieldLink RX2 9 "RdfsRules$Reasoner" "spent" "I" ∈ wsX2_init := by decide +kernel
  have hf15 : Cond.fieldLink RX2 15 "RdfsRules$Reasoner" "end" "I" ∈ wsX2_init := by decide +kernel
  have hf18 : Cond.fieldLink RX2 18 "RdfsRules$Reasoner" "round" "I" ∈ wsX2_init := by decide +kernel
  have hf21 : Cond.fieldLink RX2 21 "RdfsRules$Reasoner" "maker" "I" ∈ wsX2_init := by decide +kernel
  have hf24 : Cond.fieldLink RX2 24 "RdfsRules$Reasoner" "first" "I" ∈ wsX2_init := by decide +kernel
  have hf27 : Cond.fieldLink RX2 27 "RdfsRules$Reasoner" "second" "I" ∈ wsX2_init := by decide +kernel
  have hf30 : Cond.fieldLink RX2 30 "RdfsRules$Reasoner" "terms" "LRdfsRules$Terms;" ∈ wsX2_init := by decide +kernel
  have hf34 : Cond.fieldLink RX2 34 "RdfsRules$Reasoner" "rows" "LRdfsRules$Rows;" ∈ wsX2_init := by decide +kernel
  have hoi : Cond.methodLink RX2 3 objectInit ∈ wsX2_init := by decide +kernel
  have hom : Cond.instanceMethod objectInit ∈ wsX2_init := by decide +kernel
  have hoc : Cond.code objectInit ⟨#[0xb1]⟩ 1 none ∈ wsX2_init := by decide +kernel
  refine z_aload_n (q := 1) C 0 rfl rfl dX2_init_0 rfl ?_
  refine z_objInit (q := 4) C hoi hom hoc (by decide) (Nat.le_of_ble_eq_true rfl) dX2_init_1 rfl ?_
  refine z_aload_n (q := 5) C 0 rfl rfl dX2_init_4 rfl ?_
  refine z_iconst (q := 6) C k_iconst_0 dX2_init_5 rfl ?_
  refine z_put (q := 9) (ws' := [(h, .inr (2, [.null, .null, .int (nI 0), .int 0, .int 0, .int 0, .int 0, .int 0]))]) C hiX2 tyX2_ok nmX2 0 2 rfl rfl (by decide) hf9 rfl rfl rfl (Nat.le_of_ble_eq_true rfl) dX2_init_6 rfl rfl ?_
  refine z_aload_n (q := 10) C 0 rfl rfl dX2_init_9 rfl ?_
  refine z_iconst (q := 11) C k_iconst_0 dX2_init_10 rfl ?_
  refine z_put (q := 14) (ws' := [(h, .inr (2, [.null, .null, .int (nI 0), .int (nI 0), .int 0, .int 0, .int 0, .int 0]))]) C hiX2 tyX2_ok nmX2 0 3 rfl rfl (by decide) hf15 rfl rfl rfl (Nat.le_of_ble_eq_true rfl) dX2_init_11 rfl rfl ?_
  refine z_aload_n (q := 15) C 0 rfl rfl dX2_init_14 rfl ?_
  refine z_iconst (q := 16) C k_iconst_0 dX2_init_15 rfl ?_
  refine z_put (q := 19) (ws' := [(h, .inr (2, [.null, .null, .int (nI 0), .int (nI 0), .int (nI 0), .int 0, .int 0, .int 0]))]) C hiX2 tyX2_ok nmX2 0 4 rfl rfl (by decide) hf18 rfl rfl rfl (Nat.le_of_ble_eq_true rfl) dX2_init_16 rfl rfl ?_
  refine z_aload_n (q := 20) C 0 rfl rfl dX2_init_19 rfl ?_
  refine z_iconst (q := 21) C k_iconst_0 dX2_init_20 rfl ?_
  refine z_put (q := 24) (ws' := [(h, .inr (2, [.null, .null, .int (nI 0), .int (nI 0), .int (nI 0), .int (nI 0), .int 0, .int 0]))]) C hiX2 tyX2_ok nmX2 0 5 rfl rfl (by decide) hf21 rfl rfl rfl (Nat.le_of_ble_eq_true rfl) dX2_init_21 rfl rfl ?_
  refine z_aload_n (q := 25) C 0 rfl rfl dX2_init_24 rfl ?_
  refine z_iconst (q := 26) C k_iconst_m1 dX2_init_25 rfl ?_
  refine z_put (q := 29) (ws' := [(h, .inr (2, [.null, .null, .int (nI 0), .int (nI 0), .int (nI 0), .int (nI 0), .int (-1), .int 0]))]) C hiX2 tyX2_ok nmX2 0 6 rfl rfl (by decide) hf24 rfl rfl rfl (Nat.le_of_ble_eq_true rfl) dX2_init_26 rfl rfl ?_
  refine z_aload_n (q := 30) C 0 rfl rfl dX2_init_29 rfl ?_
  refine z_iconst (q := 31) C k_iconst_m1 dX2_init_30 rfl ?_
  refine z_put (q := 34) (ws' := [(h, .inr (2, [.null, .null, .int (nI 0), .int (nI 0), .int (nI 0), .int (nI 0), .int (-1), .int (-1)]))]) C hiX2 tyX2_ok nmX2 0 7 rfl rfl (by decide) hf27 rfl rfl rfl (Nat.le_of_ble_eq_true rfl) dX2_init_31 rfl rfl ?_
  refine z_aload_n (q := 35) C 0 rfl rfl dX2_init_34 rfl ?_
  refine z_aload_n (q := 36) C 1 rfl rfl dX2_init_35 rfl ?_
  refine z_putF (q := 39) (ws' := [(h, .inr (2, [.ref ht, .null, .int (nI 0), .int (nI 0), .int (nI 0), .int (nI 0), .int (-1), .int (-1)]))]) C hnm hiX2 tyX2_ok nmX2 0 0 rfl rfl (by decide) hf30 rfl rfl rfl rfl (Nat.le_of_ble_eq_true rfl) dX2_init_36 rfl rfl ?_
  refine z_aload_n (q := 40) C 0 rfl rfl dX2_init_39 rfl ?_
  refine z_aload_n (q := 41) C 2 rfl rfl dX2_init_40 rfl ?_
  refine z_put (q := 44) (ws' := [(h, .inr (2, [.ref ht, .ref hq, .int (nI 0), .int (nI 0), .int (nI 0), .int (nI 0), .int (-1), .int (-1)]))]) C hiX2 tyX2_ok nmX2 0 1 rfl rfl (by decide) hf34 rfl rfl rfl (Nat.le_of_ble_eq_true rfl) dX2_init_41 rfl rfl ?_
  refine z_vret C E (by omega) (by omega) dX2_init_44 ?_
  exact ⟨rfl, rfl⟩

set_option maxHeartbeats 4000000 in
set_option maxRecDepth 100000 in
theorem c_X3_init (l : Launch) (D : va_G) (g : ClassId × ClassId × ClassId) (h : Nat) : zM l yX3_init wsX3_init ({ frames := 1, cells := 9, slots := 5824, locals := 23 } : Room) D g [.ref h] [(h, .inr (3, [.null, .null, .null, .null, .null, .null, .null, .null, .null, .int 0, .int 0, .int 0]))] 9 5824 (fun v w1 => ∃ (a : Nat → Nat) (F1 : Nat → Nat → Int32), rowsRep F1 0 false ([], false) ∧ v = none ∧ w1 = [(h, .inr (3, [.ref (a 0), .ref (a 1), .ref (a 2), .ref (a 3), .ref (a 4), .ref (a 5), .ref (a 6), .ref (a 7), .ref (a 8), .int (nI 0), .int (zb false), .int (nI 0)])), (a 0, .inl (g.1, 600, .inl (F1 0))), (a 1, .inl (g.1, 600, .inl (F1 1))), (a 2, .inl (g.1, 600, .inl (F1 2))), (a 3, .inl (g.1, 600, .inl (F1 3))), (a 4, .inl (g.1, 600, .inl (F1 4))), (a 5, .inl (g.1, 600, .inl (F1 5))), (a 6, .inl (g.1, 600, .inl (F1 6))), (a 7, .inl (g.1, 1024, .inl (F1 7))), (a 8, .inl (g.2.1, 600, .inl (F1 8)))]) := by
  refine z_met (cc := cX3_init) (maxL := 1) (ret := none) (lv := [(0, .ref h)]) (by decide) rfl (Nat.le_of_ble_eq_true rfl) rfl ?_
  intro X hXD hXg hXl hnm C E
  subst hXD hXg hXl
  have C : zC X cX3_init 1 RX3 wsX3_init ({ frames := 1, cells := 9, slots := 5824, locals := 23 } : Room) := C
  have hiX3 : ∀ w ∈ u_ws RX3 TX3 12, w ∈ wsX3_init := by decide +kernel
  have hf9 : Cond.fieldLink RX3 9 "RdfsRules$Rows" "subjects" "[I" ∈ wsX3_init := by decide +kernel
  have hf15 : Cond.fieldLink RX3 15 "RdfsRules$Rows" "properties" "[I" ∈ wsX3_init := by decide +kernel
  have hf18 : Cond.fieldLink RX3 18 "RdfsRules$Rows" "objects" "[I" ∈ wsX3_init := by decide +kernel
  have hf21 : Cond.fieldLink RX3 21 "RdfsRules$Rows" "rules" "[I" ∈ wsX3_init := by decide +kernel
  have hf24 : Cond.fieldLink RX3 24 "RdfsRules$Rows" "firsts" "[I" ∈ wsX3_init := by decide +kernel
  have hf27 : Cond.fieldLink RX3 27 "RdfsRules$Rows" "seconds" "[I" ∈ wsX3_init := by decide +kernel
  have hf30 : Cond.fieldLink RX3 30 "RdfsRules$Rows" "rounds" "[I" ∈ wsX3_init := by decide +kernel
  have hf33 : Cond.fieldLink RX3 33 "RdfsRules$Rows" "rowAtSlot" "[I" ∈ wsX3_init := by decide +kernel
  have hf36 : Cond.fieldLink RX3 36 "RdfsRules$Rows" "rests" "[Z" ∈ wsX3_init := by decide +kernel
  have hf40 : Cond.fieldLink RX3 40 "RdfsRules$Rows" "size" "I" ∈ wsX3_init := by decide +kernel
  have hf44 : Cond.fieldLink RX3 44 "RdfsRules$Rows" "overfull" "Z" ∈ wsX3_init := by decide +kernel
  have hf48 : Cond.fieldLink RX3 48 "RdfsRules$Rows" "axiomMemberships" "I" ∈ wsX3_init := by decide +kernel
  have harrI : Cond.arrayClass .int ∈ wsX3_init := by decide +kernel
  have harrZ : Cond.arrayClass .boolean ∈ wsX3_init := by decide +kernel
  have hoi : Cond.methodLink RX3 3 objectInit ∈ wsX3_init := by decide +kernel
  have hom : Cond.instanceMethod objectInit ∈ wsX3_init := by decide +kernel
  have hoc : Cond.code objectInit ⟨#[0xb1]⟩ 1 none ∈ wsX3_init := by decide +kernel
  refine z_aload_n (q := 1) C 0 rfl rfl dX3_init_0 rfl ?_
  refine z_objInit (q := 4) C hoi hom hoc (by decide) (Nat.le_of_ble_eq_true rfl) dX3_init_1 rfl ?_
  refine z_aload_n (q := 5) C 0 rfl rfl dX3_init_4 rfl ?_
  refine z_sipush (q := 8) C k_sipush_600 dX3_init_5 rfl ?_
  refine z_newI (q := 10) (m1 := 1) (m2 := 600) C harrI (by decide) (by decide) (by decide) dX3_init_8 rfl rfl rfl (fun q8 => ?_)
  show zW X 1 [(h, .inr (3, [.null, .null, .null, .null, .null, .null, .null, .null, .null, .int 0, .int 0, .int 0])), (q8, .inl (X.cI, 600, .inl (fun _ => 0)))] 1 600 10 _ [.ref q8, .ref h]
  refine z_putF (q := 13) (ws' := [(h, .inr (3, [.ref q8, .null, .null, .null, .null, .null, .null, .null, .null, .int 0, .int 0, .int 0])), (q8, .inl (X.cI, 600, .inl (fun _ => 0)))]) C hnm hiX3 tyX3_ok nmX3 0 0 rfl rfl (by decide) hf9 rfl rfl rfl rfl (Nat.le_of_ble_eq_true rfl) dX3_init_10 rfl rfl ?_
  refine z_aload_n (q := 14) C 0 rfl rfl dX3_init_13 rfl ?_
  refine z_sipush (q := 17) C k_sipush_600 dX3_init_14 rfl ?_
  refine z_newI (q := 19) (m1 := 2) (m2 := 1200) C harrI (by decide) (by decide) (by decide) dX3_init_17 rfl rfl rfl (fun q17 => ?_)
  show zW X 1 [(h, .inr (3, [.ref q8, .null, .null, .null, .null, .null, .null, .null, .null, .int 0, .int 0, .int 0])), (q8, .inl (X.cI, 600, .inl (fun _ => 0))), (q17, .inl (X.cI, 600, .inl (fun _ => 0)))] 2 1200 19 _ [.ref q17, .ref h]
  refine z_putF (q := 22) (ws' := [(h, .inr (3, [.ref q8, .ref q17, .null, .null, .null, .null, .null, .null, .null, .int 0, .int 0, .int 0])), (q8, .inl (X.cI, 600, .inl (fun _ => 0))), (q17, .inl (X.cI, 600, .inl (fun _ => 0)))]) C hnm hiX3 tyX3_ok nmX3 0 1 rfl rfl (by decide) hf15 rfl rfl rfl rfl (Nat.le_of_ble_eq_true rfl) dX3_init_19 rfl rfl ?_
  refine z_aload_n (q := 23) C 0 rfl rfl dX3_init_22 rfl ?_
  refine z_sipush (q := 26) C k_sipush_600 dX3_init_23 rfl ?_
  refine z_newI (q := 28) (m1 := 3) (m2 := 1800) C harrI (by decide) (by decide) (by decide) dX3_init_26 rfl rfl rfl (fun q26 => ?_)
  show zW X 1 [(h, .inr (3, [.ref q8, .ref q17, .null, .null, .null, .null, .null, .null, .null, .int 0, .int 0, .int 0])), (q8, .inl (X.cI, 600, .inl (fun _ => 0))), (q17, .inl (X.cI, 600, .inl (fun _ => 0))), (q26, .inl (X.cI, 600, .inl (fun _ => 0)))] 3 1800 28 _ [.ref q26, .ref h]
  refine z_putF (q := 31) (ws' := [(h, .inr (3, [.ref q8, .ref q17, .ref q26, .null, .null, .null, .null, .null, .null, .int 0, .int 0, .int 0])), (q8, .inl (X.cI, 600, .inl (fun _ => 0))), (q17, .inl (X.cI, 600, .inl (fun _ => 0))), (q26, .inl (X.cI, 600, .inl (fun _ => 0)))]) C hnm hiX3 tyX3_ok nmX3 0 2 rfl rfl (by decide) hf18 rfl rfl rfl rfl (Nat.le_of_ble_eq_true rfl) dX3_init_28 rfl rfl ?_
  refine z_aload_n (q := 32) C 0 rfl rfl dX3_init_31 rfl ?_
  refine z_sipush (q := 35) C k_sipush_600 dX3_init_32 rfl ?_
  refine z_newI (q := 37) (m1 := 4) (m2 := 2400) C harrI (by decide) (by decide) (by decide) dX3_init_35 rfl rfl rfl (fun q35 => ?_)
  show zW X 1 [(h, .inr (3, [.ref q8, .ref q17, .ref q26, .null, .null, .null, .null, .null, .null, .int 0, .int 0, .int 0])), (q8, .inl (X.cI, 600, .inl (fun _ => 0))), (q17, .inl (X.cI, 600, .inl (fun _ => 0))), (q26, .inl (X.cI, 600, .inl (fun _ => 0))), (q35, .inl (X.cI, 600, .inl (fun _ => 0)))] 4 2400 37 _ [.ref q35, .ref h]
  refine z_putF (q := 40) (ws' := [(h, .inr (3, [.ref q8, .ref q17, .ref q26, .ref q35, .null, .null, .null, .null, .null, .int 0, .int 0, .int 0])), (q8, .inl (X.cI, 600, .inl (fun _ => 0))), (q17, .inl (X.cI, 600, .inl (fun _ => 0))), (q26, .inl (X.cI, 600, .inl (fun _ => 0))), (q35, .inl (X.cI, 600, .inl (fun _ => 0)))]) C hnm hiX3 tyX3_ok nmX3 0 3 rfl rfl (by decide) hf21 rfl rfl rfl rfl (Nat.le_of_ble_eq_true rfl) dX3_init_37 rfl rfl ?_
  refine z_aload_n (q := 41) C 0 rfl rfl dX3_init_40 rfl ?_
  refine z_sipush (q := 44) C k_sipush_600 dX3_init_41 rfl ?_
  refine z_newI (q := 46) (m1 := 5) (m2 := 3000) C harrI (by decide) (by decide) (by decide) dX3_init_44 rfl rfl rfl (fun q44 => ?_)
  show zW X 1 [(h, .inr (3, [.ref q8, .ref q17, .ref q26, .ref q35, .null, .null, .null, .null, .null, .int 0, .int 0, .int 0])), (q8, .inl (X.cI, 600, .inl (fun _ => 0))), (q17, .inl (X.cI, 600, .inl (fun _ => 0))), (q26, .inl (X.cI, 600, .inl (fun _ => 0))), (q35, .inl (X.cI, 600, .inl (fun _ => 0))), (q44, .inl (X.cI, 600, .inl (fun _ => 0)))] 5 3000 46 _ [.ref q44, .ref h]
  refine z_putF (q := 49) (ws' := [(h, .inr (3, [.ref q8, .ref q17, .ref q26, .ref q35, .ref q44, .null, .null, .null, .null, .int 0, .int 0, .int 0])), (q8, .inl (X.cI, 600, .inl (fun _ => 0))), (q17, .inl (X.cI, 600, .inl (fun _ => 0))), (q26, .inl (X.cI, 600, .inl (fun _ => 0))), (q35, .inl (X.cI, 600, .inl (fun _ => 0))), (q44, .inl (X.cI, 600, .inl (fun _ => 0)))]) C hnm hiX3 tyX3_ok nmX3 0 4 rfl rfl (by decide) hf24 rfl rfl rfl rfl (Nat.le_of_ble_eq_true rfl) dX3_init_46 rfl rfl ?_
  refine z_aload_n (q := 50) C 0 rfl rfl dX3_init_49 rfl ?_
  refine z_sipush (q := 53) C k_sipush_600 dX3_init_50 rfl ?_
  refine z_newI (q := 55) (m1 := 6) (m2 := 3600) C harrI (by decide) (by decide) (by decide) dX3_init_53 rfl rfl rfl (fun q53 => ?_)
  show zW X 1 [(h, .inr (3, [.ref q8, .ref q17, .ref q26, .ref q35, .ref q44, .null, .null, .null, .null, .int 0, .int 0, .int 0])), (q8, .inl (X.cI, 600, .inl (fun _ => 0))), (q17, .inl (X.cI, 600, .inl (fun _ => 0))), (q26, .inl (X.cI, 600, .inl (fun _ => 0))), (q35, .inl (X.cI, 600, .inl (fun _ => 0))), (q44, .inl (X.cI, 600, .inl (fun _ => 0))), (q53, .inl (X.cI, 600, .inl (fun _ => 0)))] 6 3600 55 _ [.ref q53, .ref h]
  refine z_putF (q := 58) (ws' := [(h, .inr (3, [.ref q8, .ref q17, .ref q26, .ref q35, .ref q44, .ref q53, .null, .null, .null, .int 0, .int 0, .int 0])), (q8, .inl (X.cI, 600, .inl (fun _ => 0))), (q17, .inl (X.cI, 600, .inl (fun _ => 0))), (q26, .inl (X.cI, 600, .inl (fun _ => 0))), (q35, .inl (X.cI, 600, .inl (fun _ => 0))), (q44, .inl (X.cI, 600, .inl (fun _ => 0))), (q53, .inl (X.cI, 600, .inl (fun _ => 0)))]) C hnm hiX3 tyX3_ok nmX3 0 5 rfl rfl (by decide) hf27 rfl rfl rfl rfl (Nat.le_of_ble_eq_true rfl) dX3_init_55 rfl rfl ?_
  refine z_aload_n (q := 59) C 0 rfl rfl dX3_init_58 rfl ?_
  refine z_sipush (q := 62) C k_sipush_600 dX3_init_59 rfl ?_
  refine z_newI (q := 64) (m1 := 7) (m2 := 4200) C harrI (by decide) (by decide) (by decide) dX3_init_62 rfl rfl rfl (fun q62 => ?_)
  show zW X 1 [(h, .inr (3, [.ref q8, .ref q17, .ref q26, .ref q35, .ref q44, .ref q53, .null, .null, .null, .int 0, .int 0, .int 0])), (q8, .inl (X.cI, 600, .inl (fun _ => 0))), (q17, .inl (X.cI, 600, .inl (fun _ => 0))), (q26, .inl (X.cI, 600, .inl (fun _ => 0))), (q35, .inl (X.cI, 600, .inl (fun _ => 0))), (q44, .inl (X.cI, 600, .inl (fun _ => 0))), (q53, .inl (X.cI, 600, .inl (fun _ => 0))), (q62, .inl (X.cI, 600, .inl (fun _ => 0)))] 7 4200 64 _ [.ref q62, .ref h]
  refine z_putF (q := 67) (ws' := [(h, .inr (3, [.ref q8, .ref q17, .ref q26, .ref q35, .ref q44, .ref q53, .ref q62, .null, .null, .int 0, .int 0, .int 0])), (q8, .inl (X.cI, 600, .inl (fun _ => 0))), (q17, .inl (X.cI, 600, .inl (fun _ => 0))), (q26, .inl (X.cI, 600, .inl (fun _ => 0))), (q35, .inl (X.cI, 600, .inl (fun _ => 0))), (q44, .inl (X.cI, 600, .inl (fun _ => 0))), (q53, .inl (X.cI, 600, .inl (fun _ => 0))), (q62, .inl (X.cI, 600, .inl (fun _ => 0)))]) C hnm hiX3 tyX3_ok nmX3 0 6 rfl rfl (by decide) hf30 rfl rfl rfl rfl (Nat.le_of_ble_eq_true rfl) dX3_init_64 rfl rfl ?_
  refine z_aload_n (q := 68) C 0 rfl rfl dX3_init_67 rfl ?_
  refine z_sipush (q := 71) C k_sipush_1024 dX3_init_68 rfl ?_
  refine z_newI (q := 73) (m1 := 8) (m2 := 5224) C harrI (by decide) (by decide) (by decide) dX3_init_71 rfl rfl rfl (fun q71 => ?_)
  show zW X 1 [(h, .inr (3, [.ref q8, .ref q17, .ref q26, .ref q35, .ref q44, .ref q53, .ref q62, .null, .null, .int 0, .int 0, .int 0])), (q8, .inl (X.cI, 600, .inl (fun _ => 0))), (q17, .inl (X.cI, 600, .inl (fun _ => 0))), (q26, .inl (X.cI, 600, .inl (fun _ => 0))), (q35, .inl (X.cI, 600, .inl (fun _ => 0))), (q44, .inl (X.cI, 600, .inl (fun _ => 0))), (q53, .inl (X.cI, 600, .inl (fun _ => 0))), (q62, .inl (X.cI, 600, .inl (fun _ => 0))), (q71, .inl (X.cI, 1024, .inl (fun _ => 0)))] 8 5224 73 _ [.ref q71, .ref h]
  refine z_putF (q := 76) (ws' := [(h, .inr (3, [.ref q8, .ref q17, .ref q26, .ref q35, .ref q44, .ref q53, .ref q62, .ref q71, .null, .int 0, .int 0, .int 0])), (q8, .inl (X.cI, 600, .inl (fun _ => 0))), (q17, .inl (X.cI, 600, .inl (fun _ => 0))), (q26, .inl (X.cI, 600, .inl (fun _ => 0))), (q35, .inl (X.cI, 600, .inl (fun _ => 0))), (q44, .inl (X.cI, 600, .inl (fun _ => 0))), (q53, .inl (X.cI, 600, .inl (fun _ => 0))), (q62, .inl (X.cI, 600, .inl (fun _ => 0))), (q71, .inl (X.cI, 1024, .inl (fun _ => 0)))]) C hnm hiX3 tyX3_ok nmX3 0 7 rfl rfl (by decide) hf33 rfl rfl rfl rfl (Nat.le_of_ble_eq_true rfl) dX3_init_73 rfl rfl ?_
  refine z_aload_n (q := 77) C 0 rfl rfl dX3_init_76 rfl ?_
  refine z_sipush (q := 80) C k_sipush_600 dX3_init_77 rfl ?_
  refine z_newZ (q := 82) (m1 := 9) (m2 := 5824) C harrZ (by decide) (by decide) (by decide) dX3_init_80 rfl rfl rfl (fun q80 => ?_)
  show zW X 1 [(h, .inr (3, [.ref q8, .ref q17, .ref q26, .ref q35, .ref q44, .ref q53, .ref q62, .ref q71, .null, .int 0, .int 0, .int 0])), (q8, .inl (X.cI, 600, .inl (fun _ => 0))), (q17, .inl (X.cI, 600, .inl (fun _ => 0))), (q26, .inl (X.cI, 600, .inl (fun _ => 0))), (q35, .inl (X.cI, 600, .inl (fun _ => 0))), (q44, .inl (X.cI, 600, .inl (fun _ => 0))), (q53, .inl (X.cI, 600, .inl (fun _ => 0))), (q62, .inl (X.cI, 600, .inl (fun _ => 0))), (q71, .inl (X.cI, 1024, .inl (fun _ => 0))), (q80, .inl (X.cZ, 600, .inl (fun _ => 0)))] 9 5824 82 _ [.ref q80, .ref h]
  refine z_putF (q := 85) (ws' := [(h, .inr (3, [.ref q8, .ref q17, .ref q26, .ref q35, .ref q44, .ref q53, .ref q62, .ref q71, .ref q80, .int 0, .int 0, .int 0])), (q8, .inl (X.cI, 600, .inl (fun _ => 0))), (q17, .inl (X.cI, 600, .inl (fun _ => 0))), (q26, .inl (X.cI, 600, .inl (fun _ => 0))), (q35, .inl (X.cI, 600, .inl (fun _ => 0))), (q44, .inl (X.cI, 600, .inl (fun _ => 0))), (q53, .inl (X.cI, 600, .inl (fun _ => 0))), (q62, .inl (X.cI, 600, .inl (fun _ => 0))), (q71, .inl (X.cI, 1024, .inl (fun _ => 0))), (q80, .inl (X.cZ, 600, .inl (fun _ => 0)))]) C hnm hiX3 tyX3_ok nmX3 0 8 rfl rfl (by decide) hf36 rfl rfl rfl rfl (Nat.le_of_ble_eq_true rfl) dX3_init_82 rfl rfl ?_
  refine z_aload_n (q := 86) C 0 rfl rfl dX3_init_85 rfl ?_
  refine z_iconst (q := 87) C k_iconst_0 dX3_init_86 rfl ?_
  refine z_put (q := 90) (ws' := [(h, .inr (3, [.ref q8, .ref q17, .ref q26, .ref q35, .ref q44, .ref q53, .ref q62, .ref q71, .ref q80, .int (nI 0), .int 0, .int 0])), (q8, .inl (X.cI, 600, .inl (fun _ => 0))), (q17, .inl (X.cI, 600, .inl (fun _ => 0))), (q26, .inl (X.cI, 600, .inl (fun _ => 0))), (q35, .inl (X.cI, 600, .inl (fun _ => 0))), (q44, .inl (X.cI, 600, .inl (fun _ => 0))), (q53, .inl (X.cI, 600, .inl (fun _ => 0))), (q62, .inl (X.cI, 600, .inl (fun _ => 0))), (q71, .inl (X.cI, 1024, .inl (fun _ => 0))), (q80, .inl (X.cZ, 600, .inl (fun _ => 0)))]) C hiX3 tyX3_ok nmX3 0 9 rfl rfl (by decide) hf40 rfl rfl rfl (Nat.le_of_ble_eq_true rfl) dX3_init_87 rfl rfl ?_
  refine z_aload_n (q := 91) C 0 rfl rfl dX3_init_90 rfl ?_
  refine z_iconst (q := 92) C k_iconst_0 dX3_init_91 rfl ?_
  refine z_put (q := 95) (ws' := [(h, .inr (3, [.ref q8, .ref q17, .ref q26, .ref q35, .ref q44, .ref q53, .ref q62, .ref q71, .ref q80, .int (nI 0), .int (nI 0), .int 0])), (q8, .inl (X.cI, 600, .inl (fun _ => 0))), (q17, .inl (X.cI, 600, .inl (fun _ => 0))), (q26, .inl (X.cI, 600, .inl (fun _ => 0))), (q35, .inl (X.cI, 600, .inl (fun _ => 0))), (q44, .inl (X.cI, 600, .inl (fun _ => 0))), (q53, .inl (X.cI, 600, .inl (fun _ => 0))), (q62, .inl (X.cI, 600, .inl (fun _ => 0))), (q71, .inl (X.cI, 1024, .inl (fun _ => 0))), (q80, .inl (X.cZ, 600, .inl (fun _ => 0)))]) C hiX3 tyX3_ok nmX3 0 10 rfl rfl (by decide) hf44 rfl (by decide) (by decide) (Nat.le_of_ble_eq_true rfl) dX3_init_92 rfl rfl ?_
  refine z_aload_n (q := 96) C 0 rfl rfl dX3_init_95 rfl ?_
  refine z_iconst (q := 97) C k_iconst_0 dX3_init_96 rfl ?_
  refine z_put (q := 100) (ws' := [(h, .inr (3, [.ref q8, .ref q17, .ref q26, .ref q35, .ref q44, .ref q53, .ref q62, .ref q71, .ref q80, .int (nI 0), .int (nI 0), .int (nI 0)])), (q8, .inl (X.cI, 600, .inl (fun _ => 0))), (q17, .inl (X.cI, 600, .inl (fun _ => 0))), (q26, .inl (X.cI, 600, .inl (fun _ => 0))), (q35, .inl (X.cI, 600, .inl (fun _ => 0))), (q44, .inl (X.cI, 600, .inl (fun _ => 0))), (q53, .inl (X.cI, 600, .inl (fun _ => 0))), (q62, .inl (X.cI, 600, .inl (fun _ => 0))), (q71, .inl (X.cI, 1024, .inl (fun _ => 0))), (q80, .inl (X.cZ, 600, .inl (fun _ => 0)))]) C hiX3 tyX3_ok nmX3 0 11 rfl rfl (by decide) hf48 rfl rfl rfl (Nat.le_of_ble_eq_true rfl) dX3_init_97 rfl rfl ?_
  refine z_aload_n (q := 101) C 0 rfl rfl dX3_init_100 rfl ?_
  refine z_get (q := 104) (v := .ref q71) C hiX3 0 7 rfl rfl (by decide) hf33 rfl dX3_init_101 rfl ?_
  refine z_iconst (q := 105) C k_iconst_m1 dX3_init_104 rfl ?_
  refine z_callS (q := 108) (n := 2) (As := [.ref q71, .int (-1)]) (rest := []) (wr := [(h, .inr (3, [.ref q8, .ref q17, .ref q26, .ref q35, .ref q44, .ref q53, .ref q62, .ref q71, .ref q80, .int (nI 0), .int (nI 0), .int (nI 0)])), (q8, .inl (X.cI, 600, .inl (fun _ => 0))), (q17, .inl (X.cI, 600, .inl (fun _ => 0))), (q26, .inl (X.cI, 600, .inl (fun _ => 0))), (q35, .inl (X.cI, 600, .inl (fun _ => 0))), (q44, .inl (X.cI, 600, .inl (fun _ => 0))), (q53, .inl (X.cI, 600, .inl (fun _ => 0))), (q62, .inl (X.cI, 600, .inl (fun _ => 0))), (q80, .inl (X.cZ, 600, .inl (fun _ => 0)))]) C (c_J7_fill_53178 X.l X.D X.2.1 q71 1024 (by decide) (fun _ => 0) (-1)) gX3_init_J7_fill_53178 rfl rfl rfl (by decide +kernel) (by decide) ⟨by first | decide | omega, by first | decide | omega⟩ [8] [0, 1, 2, 3, 4, 5, 6, 7, 9] rfl rfl (by decide) (by decide) (by decide) rfl rfl (Nat.le_of_ble_eq_true rfl) dX3_init_105 rfl (fun v w1 hp => ?_)
  obtain ⟨f1, hf1, rfl, rfl⟩ := hp
  show zW X 1 [(h, .inr (3, [.ref q8, .ref q17, .ref q26, .ref q35, .ref q44, .ref q53, .ref q62, .ref q71, .ref q80, .int (nI 0), .int (nI 0), .int (nI 0)])), (q8, .inl (X.cI, 600, .inl (fun _ => 0))), (q17, .inl (X.cI, 600, .inl (fun _ => 0))), (q26, .inl (X.cI, 600, .inl (fun _ => 0))), (q35, .inl (X.cI, 600, .inl (fun _ => 0))), (q44, .inl (X.cI, 600, .inl (fun _ => 0))), (q53, .inl (X.cI, 600, .inl (fun _ => 0))), (q62, .inl (X.cI, 600, .inl (fun _ => 0))), (q80, .inl (X.cZ, 600, .inl (fun _ => 0))), (q71, .inl (X.cI, 1024, .inl f1))] _ _ 108 _ []
  refine z_ws (ws' := [(h, .inr (3, [.ref q8, .ref q17, .ref q26, .ref q35, .ref q44, .ref q53, .ref q62, .ref q71, .ref q80, .int (nI 0), .int (nI 0), .int (nI 0)])), (q8, .inl (X.cI, 600, .inl (fun _ => 0))), (q17, .inl (X.cI, 600, .inl (fun _ => 0))), (q26, .inl (X.cI, 600, .inl (fun _ => 0))), (q35, .inl (X.cI, 600, .inl (fun _ => 0))), (q44, .inl (X.cI, 600, .inl (fun _ => 0))), (q53, .inl (X.cI, 600, .inl (fun _ => 0))), (q62, .inl (X.cI, 600, .inl (fun _ => 0))), (q71, .inl (X.cI, 1024, .inl f1)), (q80, .inl (X.cZ, 600, .inl (fun _ => 0)))]) [0, 1, 2, 3, 4, 5, 6, 7, 9, 8] (by decide) rfl ?_
  refine z_vret C E (by omega) (by omega) dX3_init_108 ?_
  exact ⟨ad9 q8 q17 q26 q35 q44 q53 q62 q71 q80, fun k => match k with | 7 => f1 | _ => fun _ => 0, rowsRep.empty hf1, rfl, rfl⟩
end
section
theorem zz_last : True := trivial
end
