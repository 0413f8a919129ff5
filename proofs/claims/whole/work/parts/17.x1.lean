/-! GivenFacts -/
def givRep (G : Nat → Nat → Int32) (k : Nat) (GL : List Row) : Prop := GL.length = k ∧ k ≤ 80 ∧ ∀ i j, i < k → j < 3 → G j i = GL.getD i r0 j
theorem givRep.le {G : Nat → Nat → Int32} {k : Nat} {GL : List Row} (h : givRep G k GL) : k ≤ 80 := h.2.1
theorem givRep.at {G : Nat → Nat → Int32} {k : Nat} {GL : List Row} (h : givRep G k GL) {i j : Nat} (hi : i < k) (hj : j < 3) : G j i = GL.getD i r0 j := h.2.2 i j hi hj

set_option maxHeartbeats 4000000 in
set_option maxRecDepth 100000 in
theorem c_X1_size (l : Launch) (D : va_G) (g : ClassId × ClassId × ClassId) (h : Nat) (b : Nat → Nat) (k : Nat) : zM l yX1_size wsX1_size ({ frames := 0, cells := 0, slots := 0, locals := 0 } : Room) D g [.ref h] [(h, .inr (1, [.ref (b 0), .ref (b 1), .ref (b 2), .int (nI k)]))] 0 0 (fun v w1 => v = some (.int (nI k)) ∧ w1 = [(h, .inr (1, [.ref (b 0), .ref (b 1), .ref (b 2), .int (nI k)]))]) := by
  refine z_met (cc := cX1_size) (maxL := 1) (ret := (some .int)) (lv := [(0, .ref h)]) (by decide) rfl (Nat.le_of_ble_eq_true rfl) rfl ?_
  intro X hXD hXg hXl hnm C E
  subst hXD hXg hXl
  have C : zC X cX1_size 1 RX1 wsX1_size ({ frames := 0, cells := 0, slots := 0, locals := 0 } : Room) := C
  have hiX1 : ∀ w ∈ u_ws RX1 TX1 4, w ∈ wsX1_size := by decide +kernel
  have hf21 : Cond.fieldLink RX1 21 "RdfsRules$GivenFacts" "size" "I" ∈ wsX1_size := by decide +kernel
  refine z_aload_n (q := 1) C 0 rfl rfl dX1_size_0 rfl ?_
  refine z_get (q := 4) (v := .int (nI k)) C hiX1 0 3 rfl rfl (by decide) hf21 rfl dX1_size_1 rfl ?_
  refine z_iret C E (by omega) (by omega) dX1_size_4 ?_
  exact ⟨rfl, rfl⟩

set_option maxHeartbeats 4000000 in
set_option maxRecDepth 100000 in
theorem l_X1_placeOf {X : zX} (h : Nat) (b : Nat → Nat) (G : Nat → Nat → Int32) (k : Nat) (GL : List Row) (hG : givRep G k GL) (s p o : Int32) (C : zC X cX1_placeOf 5 RX1 wsX1_placeOf ({ frames := 0, cells := 0, slots := 0, locals := 0 } : Room)) (E : zE X (some .int) 0 0 (fun v w1 => v = some (.int (findR GL s p o)) ∧ w1 = [(h, .inr (1, [.ref (b 0), .ref (b 1), .ref (b 2), .int (nI k)])), (b 0, .inl (X.cI, 80, .inl (G 0))), (b 1, .inl (X.cI, 80, .inl (G 1))), (b 2, .inl (X.cI, 80, .inl (G 2)))])) : ∀ (m : Nat) (i : Nat), i ≤ k → k < i + m → (∀ e, e < i → ¬ (GL.getD e r0 0 = s ∧ GL.getD e r0 1 = p ∧ GL.getD e r0 2 = o)) → zW X 5 [(h, .inr (1, [.ref (b 0), .ref (b 1), .ref (b 2), .int (nI k)])), (b 0, .inl (X.cI, 80, .inl (G 0))), (b 1, .inl (X.cI, 80, .inl (G 1))), (b 2, .inl (X.cI, 80, .inl (G 2)))] 0 0 3 [(0, .ref h), (1, .int s), (2, .int p), (3, .int o), (4, .int (nI i))] [] := by
  have hiX1 : ∀ w ∈ u_ws RX1 TX1 4, w ∈ wsX1_placeOf := by decide +kernel
  have hf9 : Cond.fieldLink RX1 9 "RdfsRules$GivenFacts" "subjects" "[I" ∈ wsX1_placeOf := by decide +kernel
  have hf15 : Cond.fieldLink RX1 15 "RdfsRules$GivenFacts" "properties" "[I" ∈ wsX1_placeOf := by decide +kernel
  have hf18 : Cond.fieldLink RX1 18 "RdfsRules$GivenFacts" "objects" "[I" ∈ wsX1_placeOf := by decide +kernel
  have hf21 : Cond.fieldLink RX1 21 "RdfsRules$GivenFacts" "size" "I" ∈ wsX1_placeOf := by decide +kernel
  intro m
  induction m with
  | zero =>
    intro i hi hm hno
    exfalso
    omega
  | succ m ih =>
    intro i hi hm hno
    have hk8 := hG.le
    refine z_iload (q := 5) C 4 rfl dX1_placeOf_3 rfl ?_
    refine z_aload_n (q := 6) C 0 rfl rfl dX1_placeOf_5 rfl ?_
    refine z_get (q := 9) (v := .int (nI k)) C hiX1 0 3 rfl rfl (by decide) hf21 rfl dX1_placeOf_6 rfl ?_
    refine z_icmp_ge_n (q := 12) (tgt := 54) C (by omega) (by omega) dX1_placeOf_9 (by decide) rfl (fun c9 => ?_) (fun c9 => ?_)
    · skip
      refine z_iconst (q := 55) C k_iconst_m1 dX1_placeOf_54 rfl ?_
      refine z_iret C E (by omega) (by omega) dX1_placeOf_55 ?_
      refine ⟨?_, rfl⟩
      rw [findR_none (fun e => by obtain ⟨j, hj, e⟩ := hasF_iff.mp e; rw [hG.1] at hj; exact hno j (by omega) e)]
    · skip
      refine z_aload_n (q := 13) C 0 rfl rfl dX1_placeOf_12 rfl ?_
      refine z_get (q := 16) (v := .ref (b 0)) C hiX1 0 0 rfl rfl (by decide) hf9 rfl dX1_placeOf_13 rfl ?_
      refine z_iload (q := 18) C 4 rfl dX1_placeOf_16 rfl ?_
      refine z_iald (q := 19) C 1 rfl (i := i) (by omega) (by decide) dX1_placeOf_18 rfl ?_
      refine z_iload_n (q := 20) C 1 rfl rfl dX1_placeOf_19 rfl ?_
      refine z_icmp_ne (q := 23) (tgt := 48) C dX1_placeOf_20 (by decide) rfl (fun c20 => ?_) (fun c20 => ?_)
      · skip
        refine z_iinc (q := 51) (v := nI (i + 1)) (lv' := [(4, .int (nI (i + 1))), (0, .ref h), (1, .int s), (2, .int p), (3, .int o)]) C 4 dX1_placeOf_48 rfl rfl (k_inc1 i) (by decide) rfl ?_
        refine z_goto (tgt := 3) C dX1_placeOf_51 (by decide) ?_
        refine z_lv [1, 2, 3, 4, 0] rfl ?_
        exact ih (i + 1) (by omega) (by omega) (fun e he => by rcases Nat.lt_succ_iff_lt_or_eq.mp he with h1 | h1; exact hno e h1; subst h1; rw [← hG.at (i := e) (j := 0) (by omega) (by omega), ← hG.at (i := e) (j := 1) (by omega) (by omega), ← hG.at (i := e) (j := 2) (by omega) (by omega)]; exact fun z => c20 z.1)
      · skip
        refine z_aload_n (q := 24) C 0 rfl rfl dX1_placeOf_23 rfl ?_
        refine z_get (q := 27) (v := .ref (b 1)) C hiX1 0 1 rfl rfl (by decide) hf15 rfl dX1_placeOf_24 rfl ?_
        refine z_iload (q := 29) C 4 rfl dX1_placeOf_27 rfl ?_
        refine z_iald (q := 30) C 2 rfl (i := i) (by omega) (by decide) dX1_placeOf_29 rfl ?_
        refine z_iload_n (q := 31) C 2 rfl rfl dX1_placeOf_30 rfl ?_
        refine z_icmp_ne (q := 34) (tgt := 48) C dX1_placeOf_31 (by decide) rfl (fun c31 => ?_) (fun c31 => ?_)
        · skip
          refine z_iinc (q := 51) (v := nI (i + 1)) (lv' := [(4, .int (nI (i + 1))), (0, .ref h), (1, .int s), (2, .int p), (3, .int o)]) C 4 dX1_placeOf_48 rfl rfl (k_inc1 i) (by decide) rfl ?_
          refine z_goto (tgt := 3) C dX1_placeOf_51 (by decide) ?_
          refine z_lv [1, 2, 3, 4, 0] rfl ?_
          exact ih (i + 1) (by omega) (by omega) (fun e he => by rcases Nat.lt_succ_iff_lt_or_eq.mp he with h1 | h1; exact hno e h1; subst h1; rw [← hG.at (i := e) (j := 0) (by omega) (by omega), ← hG.at (i := e) (j := 1) (by omega) (by omega), ← hG.at (i := e) (j := 2) (by omega) (by omega)]; exact fun z => c31 z.2.1)
        · skip
          refine z_aload_n (q := 35) C 0 rfl rfl dX1_placeOf_34 rfl ?_
          refine z_get (q := 38) (v := .ref (b 2)) C hiX1 0 2 rfl rfl (by decide) hf18 rfl dX1_placeOf_35 rfl ?_
          refine z_iload (q := 40) C 4 rfl dX1_placeOf_38 rfl ?_
          refine z_iald (q := 41) C 3 rfl (i := i) (by omega) (by decide) dX1_placeOf_40 rfl ?_
          refine z_iload_n (q := 42) C 3 rfl rfl dX1_placeOf_41 rfl ?_
          refine z_icmp_ne (q := 45) (tgt := 48) C dX1_placeOf_42 (by decide) rfl (fun c42 => ?_) (fun c42 => ?_)
          · skip
            refine z_iinc (q := 51) (v := nI (i + 1)) (lv' := [(4, .int (nI (i + 1))), (0, .ref h), (1, .int s), (2, .int p), (3, .int o)]) C 4 dX1_placeOf_48 rfl rfl (k_inc1 i) (by decide) rfl ?_
            refine z_goto (tgt := 3) C dX1_placeOf_51 (by decide) ?_
            refine z_lv [1, 2, 3, 4, 0] rfl ?_
            exact ih (i + 1) (by omega) (by omega) (fun e he => by rcases Nat.lt_succ_iff_lt_or_eq.mp he with h1 | h1; exact hno e h1; subst h1; rw [← hG.at (i := e) (j := 0) (by omega) (by omega), ← hG.at (i := e) (j := 1) (by omega) (by omega), ← hG.at (i := e) (j := 2) (by omega) (by omega)]; exact fun z => c42 z.2.2)
          · skip
            refine z_iload (q := 47) C 4 rfl dX1_placeOf_45 rfl ?_
            refine z_iret C E (by omega) (by omega) dX1_placeOf_47 ?_
            refine ⟨?_, rfl⟩
            rw [findR_some (j := i) (by rw [hG.1]; omega) (by rw [← hG.at (i := i) (j := 0) (by omega) (by omega), ← hG.at (i := i) (j := 1) (by omega) (by omega), ← hG.at (i := i) (j := 2) (by omega) (by omega)]; exact ⟨c20, c31, c42⟩) hno]

set_option maxHeartbeats 4000000 in
set_option maxRecDepth 100000 in
theorem c_X1_placeOf (l : Launch) (D : va_G) (g : ClassId × ClassId × ClassId) (h : Nat) (b : Nat → Nat) (G : Nat → Nat → Int32) (k : Nat) (GL : List Row) (hG : givRep G k GL) (s p o : Int32) : zM l yX1_placeOf wsX1_placeOf ({ frames := 0, cells := 0, slots := 0, locals := 0 } : Room) D g [.ref h, .int s, .int p, .int o] [(h, .inr (1, [.ref (b 0), .ref (b 1), .ref (b 2), .int (nI k)])), (b 0, .inl (g.1, 80, .inl (G 0))), (b 1, .inl (g.1, 80, .inl (G 1))), (b 2, .inl (g.1, 80, .inl (G 2)))] 0 0 (fun v w1 => v = some (.int (findR GL s p o)) ∧ w1 = [(h, .inr (1, [.ref (b 0), .ref (b 1), .ref (b 2), .int (nI k)])), (b 0, .inl (g.1, 80, .inl (G 0))), (b 1, .inl (g.1, 80, .inl (G 1))), (b 2, .inl (g.1, 80, .inl (G 2)))]) := by
  refine z_met (cc := cX1_placeOf) (maxL := 5) (ret := (some .int)) (lv := [(0, .ref h), (1, .int s), (2, .int p), (3, .int o)]) (by decide) rfl (Nat.le_of_ble_eq_true rfl) rfl ?_
  intro X hXD hXg hXl hnm C E
  subst hXD hXg hXl
  have C : zC X cX1_placeOf 5 RX1 wsX1_placeOf ({ frames := 0, cells := 0, slots := 0, locals := 0 } : Room) := C
  have hk8 := hG.le
  refine z_iconst (q := 1) C k_iconst_0 dX1_placeOf_0 rfl ?_
  refine z_istore (q := 3) (lv' := [(4, .int (nI 0)), (0, .ref h), (1, .int s), (2, .int p), (3, .int o)]) C dX1_placeOf_1 rfl (by decide) rfl ?_
  refine z_lv [1, 2, 3, 4, 0] rfl ?_
  exact l_X1_placeOf h b G k GL hG s p o C E (k + 1) 0 (by omega) (by omega) (fun e he => absurd he (Nat.not_lt_zero e))

def gfF (G : Nat → Nat → Int32) (f0 f1 f2 : Nat → Int32) : Nat → Nat → Int32 := fun j => match j with
  | 0 => f0
  | 1 => f1
  | 2 => f2
  | m => G m
def gRow (s p o : Int32) : Row := mkRow s p o (-1) (-1) (-1) (nI 0)
theorem givRep.add {G : Nat → Nat → Int32} {k : Nat} {GL : List Row} (h : givRep G k GL) (hk : k < 80) (s p o : Int32) : givRep (gfF G (upd (G 0) k s) (upd (G 1) k p) (upd (G 2) k o)) (k + 1) (GL ++ [gRow s p o]) := by
  obtain ⟨h1, h2, h3⟩ := h
  refine ⟨by simp [h1], by omega, fun i j hi hj => ?_⟩
  rcases Nat.lt_succ_iff_lt_or_eq.mp hi with hi | rfl
  · rw [getD_app1 (by omega), ← h3 i j hi hj]
    match j, hj with
    | 0, _ => exact if_neg (by omega)
    | 1, _ => exact if_neg (by omega)
    | 2, _ => exact if_neg (by omega)
  · rw [show (GL ++ [gRow s p o]).getD i r0 = gRow s p o from by rw [← h1]; exact getD_app2]
    match j, hj with
    | 0, _ => exact if_pos rfl
    | 1, _ => exact if_pos rfl
    | 2, _ => exact if_pos rfl

set_option maxHeartbeats 4000000 in
set_option maxRecDepth 100000 in
theorem c_X1_append (l : Launch) (D : va_G) (g : ClassId × ClassId × ClassId) (h : Nat) (b : Nat → Nat) (G : Nat → Nat → Int32) (k : Nat) (GL : List Row) (hG : givRep G k GL) (hk : k < 80) (s p o : Int32) : zM l yX1_append wsX1_append ({ frames := 0, cells := 0, slots := 0, locals := 0 } : Room) D g [.ref h, .int s, .int p, .int o] [(h, .inr (1, [.ref (b 0), .ref (b 1), .ref (b 2), .int (nI k)])), (b 0, .inl (g.1, 80, .inl (G 0))), (b 1, .inl (g.1, 80, .inl (G 1))), (b 2, .inl (g.1, 80, .inl (G 2)))] 0 0 (fun v w1 => ∃ G1 : Nat → Nat → Int32, givRep G1 (k + 1) (GL ++ [gRow s p o]) ∧ v = none ∧ w1 = [(h, .inr (1, [.ref (b 0), .ref (b 1), .ref (b 2), .int (nI (k + 1))])), (b 0, .inl (g.1, 80, .inl (G1 0))), (b 1, .inl (g.1, 80, .inl (G1 1))), (b 2, .inl (g.1, 80, .inl (G1 2)))]) := by
  refine z_met (cc := cX1_append) (maxL := 4) (ret := none) (lv := [(0, .ref h), (1, .int s), (2, .int p), (3, .int o)]) (by decide) rfl (Nat.le_of_ble_eq_true rfl) rfl ?_
  intro X hXD hXg hXl hnm C E
  subst hXD hXg hXl
  have C : zC X cX1_append 4 RX1 wsX1_append ({ frames := 0, cells := 0, slots := 0, locals := 0 } : Room) := C
  have hiX1 : ∀ w ∈ u_ws RX1 TX1 4, w ∈ wsX1_append := by decide +kernel
  have hf9 : Cond.fieldLink RX1 9 "RdfsRules$GivenFacts" "subjects" "[I" ∈ wsX1_append := by decide +kernel
  have hf15 : Cond.fieldLink RX1 15 "RdfsRules$GivenFacts" "properties" "[I" ∈ wsX1_append := by decide +kernel
  have hf18 : Cond.fieldLink RX1 18 "RdfsRules$GivenFacts" "objects" "[I" ∈ wsX1_append := by decide +kernel
  have hf21 : Cond.fieldLink RX1 21 "RdfsRules$GivenFacts" "size" "I" ∈ wsX1_append := by decide +kernel
  refine z_aload_n (q := 1) C 0 rfl rfl dX1_append_0 rfl ?_
  refine z_get (q := 4) (v := .ref (b 0)) C hiX1 0 0 rfl rfl (by decide) hf9 rfl dX1_append_1 rfl ?_
  refine z_aload_n (q := 5) C 0 rfl rfl dX1_append_4 rfl ?_
  refine z_get (q := 8) (v := .int (nI k)) C hiX1 0 3 rfl rfl (by decide) hf21 rfl dX1_append_5 rfl ?_
  refine z_iload_n (q := 9) C 1 rfl rfl dX1_append_8 rfl ?_
  refine z_iast (q := 10) (ws' := [(h, .inr (1, [.ref (b 0), .ref (b 1), .ref (b 2), .int (nI k)])), (b 0, .inl (X.cI, 80, .inl (upd (G 0) k s))), (b 1, .inl (X.cI, 80, .inl (G 1))), (b 2, .inl (X.cI, 80, .inl (G 2)))]) C 1 rfl (i := k) (by omega) (by decide) dX1_append_9 rfl rfl ?_
  refine z_aload_n (q := 11) C 0 rfl rfl dX1_append_10 rfl ?_
  refine z_get (q := 14) (v := .ref (b 1)) C hiX1 0 1 rfl rfl (by decide) hf15 rfl dX1_append_11 rfl ?_
  refine z_aload_n (q := 15) C 0 rfl rfl dX1_append_14 rfl ?_
  refine z_get (q := 18) (v := .int (nI k)) C hiX1 0 3 rfl rfl (by decide) hf21 rfl dX1_append_15 rfl ?_
  refine z_iload_n (q := 19) C 2 rfl rfl dX1_append_18 rfl ?_
  refine z_iast (q := 20) (ws' := [(h, .inr (1, [.ref (b 0), .ref (b 1), .ref (b 2), .int (nI k)])), (b 0, .inl (X.cI, 80, .inl (upd (G 0) k s))), (b 1, .inl (X.cI, 80, .inl (upd (G 1) k p))), (b 2, .inl (X.cI, 80, .inl (G 2)))]) C 2 rfl (i := k) (by omega) (by decide) dX1_append_19 rfl rfl ?_
  refine z_aload_n (q := 21) C 0 rfl rfl dX1_append_20 rfl ?_
  refine z_get (q := 24) (v := .ref (b 2)) C hiX1 0 2 rfl rfl (by decide) hf18 rfl dX1_append_21 rfl ?_
  refine z_aload_n (q := 25) C 0 rfl rfl dX1_append_24 rfl ?_
  refine z_get (q := 28) (v := .int (nI k)) C hiX1 0 3 rfl rfl (by decide) hf21 rfl dX1_append_25 rfl ?_
  refine z_iload_n (q := 29) C 3 rfl rfl dX1_append_28 rfl ?_
  refine z_iast (q := 30) (ws' := [(h, .inr (1, [.ref (b 0), .ref (b 1), .ref (b 2), .int (nI k)])), (b 0, .inl (X.cI, 80, .inl (upd (G 0) k s))), (b 1, .inl (X.cI, 80, .inl (upd (G 1) k p))), (b 2, .inl (X.cI, 80, .inl (upd (G 2) k o)))]) C 3 rfl (i := k) (by omega) (by decide) dX1_append_29 rfl rfl ?_
  refine z_aload_n (q := 31) C 0 rfl rfl dX1_append_30 rfl ?_
  refine z_dup (q := 32) C rfl dX1_append_31 rfl ?_
  refine z_get (q := 35) (v := .int (nI k)) C hiX1 0 3 rfl rfl (by decide) hf21 rfl dX1_append_32 rfl ?_
  refine z_iconst (q := 36) C k_iconst_1 dX1_append_35 rfl ?_
  refine z_iadd (q := 37) C dX1_append_36 rfl ?_
  refine z_eqi (y := nI (k + 1)) (nI_add k 1) ?_
  refine z_put (q := 40) (ws' := [(h, .inr (1, [.ref (b 0), .ref (b 1), .ref (b 2), .int (nI (k + 1))])), (b 0, .inl (X.cI, 80, .inl (upd (G 0) k s))), (b 1, .inl (X.cI, 80, .inl (upd (G 1) k p))), (b 2, .inl (X.cI, 80, .inl (upd (G 2) k o)))]) C hiX1 tyX1_ok nmX1 0 3 rfl rfl (by decide) hf21 rfl rfl rfl (Nat.le_of_ble_eq_true rfl) dX1_append_37 rfl rfl ?_
  refine z_vret C E (by omega) (by omega) dX1_append_40 ?_
  exact ⟨gfF G (upd (G 0) k s) (upd (G 1) k p) (upd (G 2) k o), hG.add hk s p o, rfl, rfl⟩

theorem givRep.drop {G G1 : Nat → Nat → Int32} {k p : Nat} {GL : List Row} (h : givRep G k GL) (hp : p < k) (h1 : ∀ j q, j < 3 → G1 j q = if p ≤ q ∧ q < k - 1 then G j (q + 1) else G j q) : givRep G1 (k - 1) (GL.eraseIdx p) := by
  obtain ⟨a1, a2, a3⟩ := h
  refine ⟨by rw [List.length_eraseIdx, if_pos (by omega), a1], by omega, fun i j hi hj => ?_⟩
  rw [h1 j i hj]
  simp only [List.getD_eq_getElem?_getD, List.getElem?_eraseIdx]
  split
  · rename_i c
    rw [if_neg (by omega), ← List.getD_eq_getElem?_getD]
    exact a3 (i + 1) j (by omega) hj
  · rename_i c
    rw [if_pos (by omega), ← List.getD_eq_getElem?_getD]
    exact a3 i j (by omega) hj

set_option maxHeartbeats 4000000 in
set_option maxRecDepth 100000 in
theorem l_X1_dropAt {X : zX} (h : Nat) (b : Nat → Nat) (G : Nat → Nat → Int32) (k : Nat) (GL : List Row) (hG : givRep G k GL) (p : Nat) (hp : p < k) (C : zC X cX1_dropAt 3 RX1 wsX1_dropAt ({ frames := 0, cells := 0, slots := 0, locals := 0 } : Room)) (E : zE X none 0 0 (fun v w1 => ∃ G1 : Nat → Nat → Int32, givRep G1 (k - 1) (GL.eraseIdx p) ∧ v = none ∧ w1 = [(h, .inr (1, [.ref (b 0), .ref (b 1), .ref (b 2), .int (nI (k - 1))])), (b 0, .inl (X.cI, 80, .inl (G1 0))), (b 1, .inl (X.cI, 80, .inl (G1 1))), (b 2, .inl (X.cI, 80, .inl (G1 2)))])) : ∀ (m : Nat) (i : Nat) (H : Nat → Nat → Int32), p ≤ i → i < k → k < i + m → (∀ j q, j < 3 → H j q = if p ≤ q ∧ q < i then G j (q + 1) else G j q) → zW X 3 [(h, .inr (1, [.ref (b 0), .ref (b 1), .ref (b 2), .int (nI k)])), (b 0, .inl (X.cI, 80, .inl (H 0))), (b 1, .inl (X.cI, 80, .inl (H 1))), (b 2, .inl (X.cI, 80, .inl (H 2)))] 0 0 2 [(0, .ref h), (1, .int (nI p)), (2, .int (nI i))] [] := by
  have hiX1 : ∀ w ∈ u_ws RX1 TX1 4, w ∈ wsX1_dropAt := by decide +kernel
  have hf9 : Cond.fieldLink RX1 9 "RdfsRules$GivenFacts" "subjects" "[I" ∈ wsX1_dropAt := by decide +kernel
  have hf15 : Cond.fieldLink RX1 15 "RdfsRules$GivenFacts" "properties" "[I" ∈ wsX1_dropAt := by decide +kernel
  have hf18 : Cond.fieldLink RX1 18 "RdfsRules$GivenFacts" "objects" "[I" ∈ wsX1_dropAt := by decide +kernel
  have hf21 : Cond.fieldLink RX1 21 "RdfsRules$GivenFacts" "size" "I" ∈ wsX1_dropAt := by decide +kernel
  intro m
  induction m with
  | zero =>
    intro i H hpi hi hm hH
    exfalso
    omega
  | succ m ih =>
    intro i H hpi hi hm hH
    have hk8 := hG.le
    refine z_iload_n (q := 3) C 2 rfl rfl dX1_dropAt_2 rfl ?_
    refine z_iconst (q := 4) C k_iconst_1 dX1_dropAt_3 rfl ?_
    refine z_iadd (q := 5) C dX1_dropAt_4 rfl ?_
    refine z_eqi (y := nI (i + 1)) (nI_add i 1) ?_
    refine z_aload_n (q := 6) C 0 rfl rfl dX1_dropAt_5 rfl ?_
    refine z_get (q := 9) (v := .int (nI k)) C hiX1 0 3 rfl rfl (by decide) hf21 rfl dX1_dropAt_6 rfl ?_
    refine z_icmp_ge_n (q := 12) (tgt := 60) C (by omega) (by omega) dX1_dropAt_9 (by decide) rfl (fun c9 => ?_) (fun c9 => ?_)
    · skip
      refine z_aload_n (q := 61) C 0 rfl rfl dX1_dropAt_60 rfl ?_
      refine z_dup (q := 62) C rfl dX1_dropAt_61 rfl ?_
      refine z_get (q := 65) (v := .int (nI k)) C hiX1 0 3 rfl rfl (by decide) hf21 rfl dX1_dropAt_62 rfl ?_
      refine z_iconst (q := 66) C k_iconst_1 dX1_dropAt_65 rfl ?_
      refine z_isub (q := 67) C dX1_dropAt_66 rfl ?_
      refine z_eqi (y := nI (k - 1)) (pk_sub (a := k) (b := 1) (by omega)) ?_
      refine z_put (q := 70) (ws' := [(h, .inr (1, [.ref (b 0), .ref (b 1), .ref (b 2), .int (nI (k - 1))])), (b 0, .inl (X.cI, 80, .inl (H 0))), (b 1, .inl (X.cI, 80, .inl (H 1))), (b 2, .inl (X.cI, 80, .inl (H 2)))]) C hiX1 tyX1_ok nmX1 0 3 rfl rfl (by decide) hf21 rfl rfl rfl (Nat.le_of_ble_eq_true rfl) dX1_dropAt_67 rfl rfl ?_
      refine z_vret C E (by omega) (by omega) dX1_dropAt_70 ?_
      exact ⟨H, hG.drop hp (fun j q hj => by rw [hH j q hj, show i = k - 1 by omega]), rfl, rfl⟩
    · skip
      refine z_aload_n (q := 13) C 0 rfl rfl dX1_dropAt_12 rfl ?_
      refine z_get (q := 16) (v := .ref (b 0)) C hiX1 0 0 rfl rfl (by decide) hf9 rfl dX1_dropAt_13 rfl ?_
      refine z_iload_n (q := 17) C 2 rfl rfl dX1_dropAt_16 rfl ?_
      refine z_aload_n (q := 18) C 0 rfl rfl dX1_dropAt_17 rfl ?_
      refine z_get (q := 21) (v := .ref (b 0)) C hiX1 0 0 rfl rfl (by decide) hf9 rfl dX1_dropAt_18 rfl ?_
      refine z_iload_n (q := 22) C 2 rfl rfl dX1_dropAt_21 rfl ?_
      refine z_iconst (q := 23) C k_iconst_1 dX1_dropAt_22 rfl ?_
      refine z_iadd (q := 24) C dX1_dropAt_23 rfl ?_
      refine z_eqi (y := nI (i + 1)) (nI_add i 1) ?_
      refine z_iald (q := 25) C 1 rfl (i := i + 1) (by omega) (by decide) dX1_dropAt_24 rfl ?_
      refine z_iast (q := 26) (ws' := [(h, .inr (1, [.ref (b 0), .ref (b 1), .ref (b 2), .int (nI k)])), (b 0, .inl (X.cI, 80, .inl (upd (H 0) i ((H 0) (i + 1))))), (b 1, .inl (X.cI, 80, .inl (H 1))), (b 2, .inl (X.cI, 80, .inl (H 2)))]) C 1 rfl (i := i) (by omega) (by decide) dX1_dropAt_25 rfl rfl ?_
      refine z_aload_n (q := 27) C 0 rfl rfl dX1_dropAt_26 rfl ?_
      refine z_get (q := 30) (v := .ref (b 1)) C hiX1 0 1 rfl rfl (by decide) hf15 rfl dX1_dropAt_27 rfl ?_
      refine z_iload_n (q := 31) C 2 rfl rfl dX1_dropAt_30 rfl ?_
      refine z_aload_n (q := 32) C 0 rfl rfl dX1_dropAt_31 rfl ?_
      refine z_get (q := 35) (v := .ref (b 1)) C hiX1 0 1 rfl rfl (by decide) hf15 rfl dX1_dropAt_32 rfl ?_
      refine z_iload_n (q := 36) C 2 rfl rfl dX1_dropAt_35 rfl ?_
      refine z_iconst (q := 37) C k_iconst_1 dX1_dropAt_36 rfl ?_
      refine z_iadd (q := 38) C dX1_dropAt_37 rfl ?_
      refine z_eqi (y := nI (i + 1)) (nI_add i 1) ?_
      refine z_iald (q := 39) C 2 rfl (i := i + 1) (by omega) (by decide) dX1_dropAt_38 rfl ?_
      refine z_iast (q := 40) (ws' := [(h, .inr (1, [.ref (b 0), .ref (b 1), .ref (b 2), .int (nI k)])), (b 0, .inl (X.cI, 80, .inl (upd (H 0) i ((H 0) (i + 1))))), (b 1, .inl (X.cI, 80, .inl (upd (H 1) i ((H 1) (i + 1))))), (b 2, .inl (X.cI, 80, .inl (H 2)))]) C 2 rfl (i := i) (by omega) (by decide) dX1_dropAt_39 rfl rfl ?_
      refine z_aload_n (q := 41) C 0 rfl rfl dX1_dropAt_40 rfl ?_
      refine z_get (q := 44) (v := .ref (b 2)) C hiX1 0 2 rfl rfl (by decide) hf18 rfl dX1_dropAt_41 rfl ?_
      refine z_iload_n (q := 45) C 2 rfl rfl dX1_dropAt_44 rfl ?_
      refine z_aload_n (q := 46) C 0 rfl rfl dX1_dropAt_45 rfl ?_
      refine z_get (q := 49) (v := .ref (b 2)) C hiX1 0 2 rfl rfl (by decide) hf18 rfl dX1_dropAt_46 rfl ?_
      refine z_iload_n (q := 50) C 2 rfl rfl dX1_dropAt_49 rfl ?_
      refine z_iconst (q := 51) C k_iconst_1 dX1_dropAt_50 rfl ?_
      refine z_iadd (q := 52) C dX1_dropAt_51 rfl ?_
      refine z_eqi (y := nI (i + 1)) (nI_add i 1) ?_
      refine z_iald (q := 53) C 3 rfl (i := i + 1) (by omega) (by decide) dX1_dropAt_52 rfl ?_
      refine z_iast (q := 54) (ws' := [(h, .inr (1, [.ref (b 0), .ref (b 1), .ref (b 2), .int (nI k)])), (b 0, .inl (X.cI, 80, .inl (upd (H 0) i ((H 0) (i + 1))))), (b 1, .inl (X.cI, 80, .inl (upd (H 1) i ((H 1) (i + 1))))), (b 2, .inl (X.cI, 80, .inl (upd (H 2) i ((H 2) (i + 1)))))]) C 3 rfl (i := i) (by omega) (by decide) dX1_dropAt_53 rfl rfl ?_
      refine z_iinc (q := 57) (v := nI (i + 1)) (lv' := [(2, .int (nI (i + 1))), (0, .ref h), (1, .int (nI p))]) C 2 dX1_dropAt_54 rfl rfl (k_inc1 i) (by decide) rfl ?_
      refine z_goto (tgt := 2) C dX1_dropAt_57 (by decide) ?_
      refine z_lv [1, 2, 0] rfl ?_
      refine ih (i + 1) (gfF H (upd (H 0) i (H 0 (i + 1))) (upd (H 1) i (H 1 (i + 1))) (upd (H 2) i (H 2 (i + 1)))) (by omega) (by omega) (by omega) (fun j q hj => ?_)
      have key : (if q = i then H j (i + 1) else H j q) = if p ≤ q ∧ q < i + 1 then G j (q + 1) else G j q := by
        split
        · rename_i e
          subst e
          rw [hH j (q + 1) hj, if_neg (by omega), if_pos (by omega)]
        · rw [hH j q hj]
          by_cases c : p ≤ q ∧ q < i
          · rw [if_pos c, if_pos (by omega)]
          · rw [if_neg c, if_neg (by omega)]
      match j, hj with
      | 0, _ => exact key
      | 1, _ => exact key
      | 2, _ => exact key

set_option maxHeartbeats 4000000 in
set_option maxRecDepth 100000 in
theorem c_X1_dropAt (l : Launch) (D : va_G) (g : ClassId × ClassId × ClassId) (h : Nat) (b : Nat → Nat) (G : Nat → Nat → Int32) (k : Nat) (GL : List Row) (hG : givRep G k GL) (p : Nat) (hp : p < k) : zM l yX1_dropAt wsX1_dropAt ({ frames := 0, cells := 0, slots := 0, locals := 0 } : Room) D g [.ref h, .int (nI p)] [(h, .inr (1, [.ref (b 0), .ref (b 1), .ref (b 2), .int (nI k)])), (b 0, .inl (g.1, 80, .inl (G 0))), (b 1, .inl (g.1, 80, .inl (G 1))), (b 2, .inl (g.1, 80, .inl (G 2)))] 0 0 (fun v w1 => ∃ G1 : Nat → Nat → Int32, givRep G1 (k - 1) (GL.eraseIdx p) ∧ v = none ∧ w1 = [(h, .inr (1, [.ref (b 0), .ref (b 1), .ref (b 2), .int (nI (k - 1))])), (b 0, .inl (g.1, 80, .inl (G1 0))), (b 1, .inl (g.1, 80, .inl (G1 1))), (b 2, .inl (g.1, 80, .inl (G1 2)))]) := by
  refine z_met (cc := cX1_dropAt) (maxL := 3) (ret := none) (lv := [(0, .ref h), (1, .int (nI p))]) (by decide) rfl (Nat.le_of_ble_eq_true rfl) rfl ?_
  intro X hXD hXg hXl hnm C E
  subst hXD hXg hXl
  have C : zC X cX1_dropAt 3 RX1 wsX1_dropAt ({ frames := 0, cells := 0, slots := 0, locals := 0 } : Room) := C
  have hk8 := hG.le
  refine z_iload_n (q := 1) C 1 rfl rfl dX1_dropAt_0 rfl ?_
  refine z_istore_n (q := 2) (lv' := [(2, .int (nI p)), (0, .ref h), (1, .int (nI p))]) C rfl dX1_dropAt_1 rfl (by decide) rfl ?_
  refine z_lv [1, 2, 0] rfl ?_
  exact l_X1_dropAt h b G k GL hG p hp C E (k + 1) p G (by omega) (by omega) (by omega) (fun j q hj => by rw [if_neg (by omega)])

def givN (GL : List Row) (S : RSt) : Nat → RSt
  | 0 => S
  | i + 1 => addR (givN GL S i) (gRow (GL.getD i r0 0) (GL.getD i r0 1) (GL.getD i r0 2))

set_option maxHeartbeats 4000000 in
set_option maxRecDepth 100000 in
theorem l_X1_appendTo {X : zX} (h1 : Nat) (b : Nat → Nat) (G : Nat → Nat → Int32) (k : Nat) (GL : List Row) (hG : givRep G k GL) (h : Nat) (a : Nat → Nat) (am : Int32) (S : RSt) (C : zC X cX1_appendTo 3 RX1 wsX1_appendTo ({ frames := 2, cells := 0, slots := 0, locals := 54 } : Room)) (E : zE X none 0 0 (fun v w1 => ∃ (F1 : Nat → Nat → Int32) (n1 : Nat) (o1 : Bool), rowsRep F1 n1 o1 (givN GL S k) ∧ v = none ∧ w1 = [(h1, .inr (1, [.ref (b 0), .ref (b 1), .ref (b 2), .int (nI k)])), (b 0, .inl (X.cI, 80, .inl (G 0))), (b 1, .inl (X.cI, 80, .inl (G 1))), (b 2, .inl (X.cI, 80, .inl (G 2))), (h, .inr (3, [.ref (a 0), .ref (a 1), .ref (a 2), .ref (a 3), .ref (a 4), .ref (a 5), .ref (a 6), .ref (a 7), .ref (a 8), .int (nI n1), .int (zb o1), .int am])), (a 0, .inl (X.cI, 600, .inl (F1 0))), (a 1, .inl (X.cI, 600, .inl (F1 1))), (a 2, .inl (X.cI, 600, .inl (F1 2))), (a 3, .inl (X.cI, 600, .inl (F1 3))), (a 4, .inl (X.cI, 600, .inl (F1 4))), (a 5, .inl (X.cI, 600, .inl (F1 5))), (a 6, .inl (X.cI, 600, .inl (F1 6))), (a 7, .inl (X.cI, 1024, .inl (F1 7))), (a 8, .inl (X.cZ, 600, .inl (F1 8)))])) : ∀ (m : Nat) (i : Nat) (F : Nat → Nat → Int32) (n : Nat) (ov : Bool), i ≤ k → k < i + m → rowsRep F n ov (givN GL S i) → zW X 3 [(h1, .inr (1, [.ref (b 0), .ref (b 1), .ref (b 2), .int (nI k)])), (b 0, .inl (X.cI, 80, .inl (G 0))), (b 1, .inl (X.cI, 80, .inl (G 1))), (b 2, .inl (X.cI, 80, .inl (G 2))), (h, .inr (3, [.ref (a 0), .ref (a 1), .ref (a 2), .ref (a 3), .ref (a 4), .ref (a 5), .ref (a 6), .ref (a 7), .ref (a 8), .int (nI n), .int (zb ov), .int am])), (a 0, .inl (X.cI, 600, .inl (F 0))), (a 1, .inl (X.cI, 600, .inl (F 1))), (a 2, .inl (X.cI, 600, .inl (F 2))), (a 3, .inl (X.cI, 600, .inl (F 3))), (a 4, .inl (X.cI, 600, .inl (F 4))), (a 5, .inl (X.cI, 600, .inl (F 5))), (a 6, .inl (X.cI, 600, .inl (F 6))), (a 7, .inl (X.cI, 1024, .inl (F 7))), (a 8, .inl (X.cZ, 600, .inl (F 8)))] 0 0 2 [(0, .ref h1), (1, .ref h), (2, .int (nI i))] [] := by
  have hiX1 : ∀ w ∈ u_ws RX1 TX1 4, w ∈ wsX1_appendTo := by decide +kernel
  have hf9 : Cond.fieldLink RX1 9 "RdfsRules$GivenFacts" "subjects" "[I" ∈ wsX1_appendTo := by decide +kernel
  have hf15 : Cond.fieldLink RX1 15 "RdfsRules$GivenFacts" "properties" "[I" ∈ wsX1_appendTo := by decide +kernel
  have hf18 : Cond.fieldLink RX1 18 "RdfsRules$GivenFacts" "objects" "[I" ∈ wsX1_appendTo := by decide +kernel
  have hf21 : Cond.fieldLink RX1 21 "RdfsRules$GivenFacts" "size" "I" ∈ wsX1_appendTo := by decide +kernel
  intro m
  induction m with
  | zero =>
    intro i F n ov hi hm hR
    exfalso
    omega
  | succ m ih =>
    intro i F n ov hi hm hR
    have hk8 := hG.le
    refine z_iload_n (q := 3) C 2 rfl rfl dX1_appendTo_2 rfl ?_
    refine z_aload_n (q := 4) C 0 rfl rfl dX1_appendTo_3 rfl ?_
    refine z_get (q := 7) (v := .int (nI k)) C hiX1 0 3 rfl rfl (by decide) hf21 rfl dX1_appendTo_4 rfl ?_
    refine z_icmp_ge_n (q := 10) (tgt := 42) C (by omega) (by omega) dX1_appendTo_7 (by decide) rfl (fun c7 => ?_) (fun c7 => ?_)
    · skip
      refine z_vret C E (by omega) (by omega) dX1_appendTo_42 ?_
      obtain rfl : i = k := by omega
      exact ⟨F, n, ov, hR, rfl, rfl⟩
    · skip
      refine z_aload_n (q := 11) C 1 rfl rfl dX1_appendTo_10 rfl ?_
      refine z_aload_n (q := 12) C 0 rfl rfl dX1_appendTo_11 rfl ?_
      refine z_get (q := 15) (v := .ref (b 0)) C hiX1 0 0 rfl rfl (by decide) hf9 rfl dX1_appendTo_12 rfl ?_
      refine z_iload_n (q := 16) C 2 rfl rfl dX1_appendTo_15 rfl ?_
      refine z_iald (q := 17) C 1 rfl (i := i) (by omega) (by decide) dX1_appendTo_16 rfl ?_
      refine z_aload_n (q := 18) C 0 rfl rfl dX1_appendTo_17 rfl ?_
      refine z_get (q := 21) (v := .ref (b 1)) C hiX1 0 1 rfl rfl (by decide) hf15 rfl dX1_appendTo_18 rfl ?_
      refine z_iload_n (q := 22) C 2 rfl rfl dX1_appendTo_21 rfl ?_
      refine z_iald (q := 23) C 2 rfl (i := i) (by omega) (by decide) dX1_appendTo_22 rfl ?_
      refine z_aload_n (q := 24) C 0 rfl rfl dX1_appendTo_23 rfl ?_
      refine z_get (q := 27) (v := .ref (b 2)) C hiX1 0 2 rfl rfl (by decide) hf18 rfl dX1_appendTo_24 rfl ?_
      refine z_iload_n (q := 28) C 2 rfl rfl dX1_appendTo_27 rfl ?_
      refine z_iald (q := 29) C 3 rfl (i := i) (by omega) (by decide) dX1_appendTo_28 rfl ?_
      refine z_iconst (q := 30) C k_iconst_m1 dX1_appendTo_29 rfl ?_
      refine z_iconst (q := 31) C k_iconst_m1 dX1_appendTo_30 rfl ?_
      refine z_iconst (q := 32) C k_iconst_m1 dX1_appendTo_31 rfl ?_
      refine z_iconst (q := 33) C k_iconst_0 dX1_appendTo_32 rfl ?_
      refine z_callV (q := 36) (n := 7) (As := [.int ((G 0) i), .int ((G 1) i), .int ((G 2) i), .int (-1), .int (-1), .int (-1), .int (nI 0)]) (rest := []) (wr := [(h1, .inr (1, [.ref (b 0), .ref (b 1), .ref (b 2), .int (nI k)])), (b 0, .inl (X.cI, 80, .inl (G 0))), (b 1, .inl (X.cI, 80, .inl (G 1))), (b 2, .inl (X.cI, 80, .inl (G 2)))]) C (c_X3_addNew X.l X.D X.2.1 h a F n ov am (givN GL S i) hR (G 0 i) (G 1 i) (G 2 i) (-1) (-1) (-1) (nI 0)) gX1_appendTo_X3_addNew rfl rfl rfl (by decide +kernel) (by decide) ⟨by first | decide | omega, by first | decide | omega⟩ 0 3 rfl rfl [4, 5, 6, 7, 8, 9, 10, 11, 12, 13] [0, 1, 2, 3] rfl rfl (by decide) (by decide) (by decide) rfl rfl (Nat.le_of_ble_eq_true rfl) dX1_appendTo_33 rfl (fun v w1 hp => ?_)
      obtain ⟨F1, n1, o1, hR1, rfl, rfl⟩ := hp
      show zW X 3 [(h1, .inr (1, [.ref (b 0), .ref (b 1), .ref (b 2), .int (nI k)])), (b 0, .inl (X.cI, 80, .inl (G 0))), (b 1, .inl (X.cI, 80, .inl (G 1))), (b 2, .inl (X.cI, 80, .inl (G 2))), (h, .inr (3, [.ref (a 0), .ref (a 1), .ref (a 2), .ref (a 3), .ref (a 4), .ref (a 5), .ref (a 6), .ref (a 7), .ref (a 8), .int (nI n1), .int (zb o1), .int am])), (a 0, .inl (X.cI, 600, .inl (F1 0))), (a 1, .inl (X.cI, 600, .inl (F1 1))), (a 2, .inl (X.cI, 600, .inl (F1 2))), (a 3, .inl (X.cI, 600, .inl (F1 3))), (a 4, .inl (X.cI, 600, .inl (F1 4))), (a 5, .inl (X.cI, 600, .inl (F1 5))), (a 6, .inl (X.cI, 600, .inl (F1 6))), (a 7, .inl (X.cI, 1024, .inl (F1 7))), (a 8, .inl (X.cZ, 600, .inl (F1 8)))] _ _ 36 _ []
      refine z_iinc (q := 39) (v := nI (i + 1)) (lv' := [(2, .int (nI (i + 1))), (0, .ref h1), (1, .ref h)]) C 2 dX1_appendTo_36 rfl rfl (k_inc1 i) (by decide) rfl ?_
      refine z_goto (tgt := 2) C dX1_appendTo_39 (by decide) ?_
      refine z_lv [1, 2, 0] rfl ?_
      exact ih (i + 1) F1 n1 o1 (by omega) (by omega) (by show rowsRep F1 n1 o1 (addR _ (gRow _ _ _)); rw [← hG.at (i := i) (j := 0) (by omega) (by omega), ← hG.at (i := i) (j := 1) (by omega) (by omega), ← hG.at (i := i) (j := 2) (by omega) (by omega)]; exact hR1)

set_option maxHeartbeats 4000000 in
set_option maxRecDepth 100000 in
theorem c_X1_appendTo (l : Launch) (D : va_G) (g : ClassId × ClassId × ClassId) (h1 : Nat) (b : Nat → Nat) (G : Nat → Nat → Int32) (k : Nat) (GL : List Row) (hG : givRep G k GL) (h : Nat) (a : Nat → Nat) (F : Nat → Nat → Int32) (n : Nat) (ov : Bool) (am : Int32) (S : RSt) (hR : rowsRep F n ov S) : zM l yX1_appendTo wsX1_appendTo ({ frames := 2, cells := 0, slots := 0, locals := 54 } : Room) D g [.ref h1, .ref h] [(h1, .inr (1, [.ref (b 0), .ref (b 1), .ref (b 2), .int (nI k)])), (b 0, .inl (g.1, 80, .inl (G 0))), (b 1, .inl (g.1, 80, .inl (G 1))), (b 2, .inl (g.1, 80, .inl (G 2))), (h, .inr (3, [.ref (a 0), .ref (a 1), .ref (a 2), .ref (a 3), .ref (a 4), .ref (a 5), .ref (a 6), .ref (a 7), .ref (a 8), .int (nI n), .int (zb ov), .int am])), (a 0, .inl (g.1, 600, .inl (F 0))), (a 1, .inl (g.1, 600, .inl (F 1))), (a 2, .inl (g.1, 600, .inl (F 2))), (a 3, .inl (g.1, 600, .inl (F 3))), (a 4, .inl (g.1, 600, .inl (F 4))), (a 5, .inl (g.1, 600, .inl (F 5))), (a 6, .inl (g.1, 600, .inl (F 6))), (a 7, .inl (g.1, 1024, .inl (F 7))), (a 8, .inl (g.2.1, 600, .inl (F 8)))] 0 0 (fun v w1 => ∃ (F1 : Nat → Nat → Int32) (n1 : Nat) (o1 : Bool), rowsRep F1 n1 o1 (givN GL S k) ∧ v = none ∧ w1 = [(h1, .inr (1, [.ref (b 0), .ref (b 1), .ref (b 2), .int (nI k)])), (b 0, .inl (g.1, 80, .inl (G 0))), (b 1, .inl (g.1, 80, .inl (G 1))), (b 2, .inl (g.1, 80, .inl (G 2))), (h, .inr (3, [.ref (a 0), .ref (a 1), .ref (a 2), .ref (a 3), .ref (a 4), .ref (a 5), .ref (a 6), .ref (a 7), .ref (a 8), .int (nI n1), .int (zb o1), .int am])), (a 0, .inl (g.1, 600, .inl (F1 0))), (a 1, .inl (g.1, 600, .inl (F1 1))), (a 2, .inl (g.1, 600, .inl (F1 2))), (a 3, .inl (g.1, 600, .inl (F1 3))), (a 4, .inl (g.1, 600, .inl (F1 4))), (a 5, .inl (g.1, 600, .inl (F1 5))), (a 6, .inl (g.1, 600, .inl (F1 6))), (a 7, .inl (g.1, 1024, .inl (F1 7))), (a 8, .inl (g.2.1, 600, .inl (F1 8)))]) := by
  refine z_met (cc := cX1_appendTo) (maxL := 3) (ret := none) (lv := [(0, .ref h1), (1, .ref h)]) (by decide) rfl (Nat.le_of_ble_eq_true rfl) rfl ?_
  intro X hXD hXg hXl hnm C E
  subst hXD hXg hXl
  have C : zC X cX1_appendTo 3 RX1 wsX1_appendTo ({ frames := 2, cells := 0, slots := 0, locals := 54 } : Room) := C
  have hk8 := hG.le
  refine z_iconst (q := 1) C k_iconst_0 dX1_appendTo_0 rfl ?_
  refine z_istore_n (q := 2) (lv' := [(2, .int (nI 0)), (0, .ref h1), (1, .ref h)]) C rfl dX1_appendTo_1 rfl (by decide) rfl ?_
  refine z_lv [1, 2, 0] rfl ?_
  exact l_X1_appendTo h1 b G k GL hG h a am S C E (k + 1) 0 F n ov (by omega) (by omega) hR
