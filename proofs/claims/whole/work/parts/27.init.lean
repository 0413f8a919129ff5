set_option maxHeartbeats 4000000 in
set_option maxRecDepth 100000 in
theorem l_J7_fill {X : zX} (a n : Nat) (hn : n < 100000) (x : Int32) (C : zC X cJ7_fill_53178 4 RJ7 wsJ7_fill_53178 ({ frames := 0, cells := 0, slots := 0, locals := 0 } : Room)) (E : zE X none 0 0 (fun v w1 => ∃ f1 : Nat → Int32, (∀ i, i < n → f1 i = x) ∧ v = none ∧ w1 = [(a, .inl (X.cI, n, .inl f1))])) : ∀ (m : Nat) (i : Nat) (g : Nat → Int32), i ≤ n → n < i + m → (∀ e, e < i → g e = x) → zW X 4 [(a, .inl (X.cI, n, .inl g))] 0 0 5 [(0, .ref a), (1, .int x), (2, .int (nI i)), (3, .int (nI n))] [] := by
  intro m
  induction m with
  | zero =>
    intro i g hi hm hg
    exfalso
    omega
  | succ m ih =>
    intro i g hi hm hg
    refine z_iload_n (q := 6) C 2 rfl rfl dJ7_fill_53178_5 rfl ?_
    refine z_iload_n (q := 7) C 3 rfl rfl dJ7_fill_53178_6 rfl ?_
    refine z_icmp_ge_n (q := 10) (tgt := 20) C (by omega) (by omega) dJ7_fill_53178_7 (by decide) rfl (fun c7 => ?_) (fun c7 => ?_)
    · skip
      refine z_vret C E (by omega) (by omega) dJ7_fill_53178_20 ?_
      exact ⟨g, fun e he => hg e (by omega), rfl, rfl⟩
    · skip
      refine z_aload_n (q := 11) C 0 rfl rfl dJ7_fill_53178_10 rfl ?_
      refine z_iload_n (q := 12) C 2 rfl rfl dJ7_fill_53178_11 rfl ?_
      refine z_iload_n (q := 13) C 1 rfl rfl dJ7_fill_53178_12 rfl ?_
      refine z_iast (q := 14) (ws' := [(a, .inl (X.cI, n, .inl (upd g i x)))]) C 0 rfl (i := i) (by omega) (by omega) dJ7_fill_53178_13 rfl rfl ?_
      refine z_iinc (q := 17) (v := nI (i + 1)) (lv' := [(2, .int (nI (i + 1))), (0, .ref a), (1, .int x), (3, .int (nI n))]) C 2 dJ7_fill_53178_14 rfl rfl (k_inc1 i) (by decide) rfl ?_
      refine z_goto (tgt := 5) C dJ7_fill_53178_17 (by decide) ?_
      refine z_lv [1, 2, 0, 3] rfl ?_
      exact ih (i + 1) (upd g i x) (by omega) (by omega) (fun e he => by show (if e = i then x else g e) = x; split; rfl; exact hg e (by omega))

set_option maxHeartbeats 4000000 in
set_option maxRecDepth 100000 in
theorem c_J7_fill_53178 (l : Launch) (D : va_G) (g : ClassId × ClassId × ClassId) (a n : Nat) (hn : n < 100000) (f : Nat → Int32) (x : Int32) : zM l yJ7_fill_53178 wsJ7_fill_53178 ({ frames := 0, cells := 0, slots := 0, locals := 0 } : Room) D g [.ref a, .int x] [(a, .inl (g.1, n, .inl f))] 0 0 (fun v w1 => ∃ f1 : Nat → Int32, (∀ i, i < n → f1 i = x) ∧ v = none ∧ w1 = [(a, .inl (g.1, n, .inl f1))]) := by
  refine z_met (cc := cJ7_fill_53178) (maxL := 4) (ret := none) (lv := [(0, .ref a), (1, .int x)]) (by decide) rfl (Nat.le_of_ble_eq_true rfl) rfl ?_
  intro X hXD hXg hXl hnm C E
  subst hXD hXg hXl
  have C : zC X cJ7_fill_53178 4 RJ7 wsJ7_fill_53178 ({ frames := 0, cells := 0, slots := 0, locals := 0 } : Room) := C
  refine z_iconst (q := 1) C k_iconst_0 dJ7_fill_53178_0 rfl ?_
  refine z_istore_n (q := 2) (lv' := [(2, .int (nI 0)), (0, .ref a), (1, .int x)]) C rfl dJ7_fill_53178_1 rfl (by decide) rfl ?_
  refine z_aload_n (q := 3) C 1 rfl rfl dJ7_fill_53178_2 rfl ?_
  refine z_alen (q := 4) C 0 rfl dJ7_fill_53178_3 rfl ?_
  refine z_istore_n (q := 5) (lv' := [(3, .int (nI n)), (2, .int (nI 0)), (0, .ref a), (1, .int x)]) C rfl dJ7_fill_53178_4 rfl (by decide) rfl ?_
  refine z_lv [2, 3, 1, 0] rfl ?_
  exact l_J7_fill a n hn x C E (n + 1) 0 f (by omega) (by omega) (fun e he => absurd he (Nat.not_lt_zero e))

def set7 (F : Nat → Nat → Int32) (f : Nat → Int32) : Nat → Nat → Int32 := fun k => match k with
  | 7 => f
  | m => F m
theorem rowsRep.empty {F : Nat → Nat → Int32} (h : ∀ k, k < 1024 → F 7 k = (-1)) : rowsRep F 0 false ([], false) :=
  ⟨rfl, by omega, rfl, (fun e => by cases e), fun i j hi => absurd hi (Nat.not_lt_zero i), fun k hk => Or.inl (h k hk), fun k k' hk _ _ e => absurd (h k hk) e, fun j hj => absurd hj (Nat.not_lt_zero j), fun i j hi => absurd hi (Nat.not_lt_zero i)⟩

set_option maxHeartbeats 4000000 in
set_option maxRecDepth 100000 in
theorem c_X3_restart (l : Launch) (D : va_G) (g : ClassId × ClassId × ClassId) (h : Nat) (a : Nat → Nat) (F : Nat → Nat → Int32) (n ov am am1 : Int32) : zM l yX3_restart wsX3_restart ({ frames := 1, cells := 0, slots := 0, locals := 23 } : Room) D g [.ref h, .int am1] [(h, .inr (3, [.ref (a 0), .ref (a 1), .ref (a 2), .ref (a 3), .ref (a 4), .ref (a 5), .ref (a 6), .ref (a 7), .ref (a 8), .int n, .int ov, .int am])), (a 0, .inl (g.1, 600, .inl (F 0))), (a 1, .inl (g.1, 600, .inl (F 1))), (a 2, .inl (g.1, 600, .inl (F 2))), (a 3, .inl (g.1, 600, .inl (F 3))), (a 4, .inl (g.1, 600, .inl (F 4))), (a 5, .inl (g.1, 600, .inl (F 5))), (a 6, .inl (g.1, 600, .inl (F 6))), (a 7, .inl (g.1, 1024, .inl (F 7))), (a 8, .inl (g.2.1, 600, .inl (F 8)))] 0 0 (fun v w1 => ∃ F1 : Nat → Nat → Int32, rowsRep F1 0 false ([], false) ∧ v = none ∧ w1 = [(h, .inr (3, [.ref (a 0), .ref (a 1), .ref (a 2), .ref (a 3), .ref (a 4), .ref (a 5), .ref (a 6), .ref (a 7), .ref (a 8), .int (nI 0), .int (zb false), .int am1])), (a 0, .inl (g.1, 600, .inl (F1 0))), (a 1, .inl (g.1, 600, .inl (F1 1))), (a 2, .inl (g.1, 600, .inl (F1 2))), (a 3, .inl (g.1, 600, .inl (F1 3))), (a 4, .inl (g.1, 600, .inl (F1 4))), (a 5, .inl (g.1, 600, .inl (F1 5))), (a 6, .inl (g.1, 600, .inl (F1 6))), (a 7, .inl (g.1, 1024, .inl (F1 7))), (a 8, .inl (g.2.1, 600, .inl (F1 8)))]) := by
  refine z_met (cc := cX3_restart) (maxL := 2) (ret := none) (lv := [(0, .ref h), (1, .int am1)]) (by decide) rfl (Nat.le_of_ble_eq_true rfl) rfl ?_
  intro X hXD hXg hXl hnm C E
  subst hXD hXg hXl
  have C : zC X cX3_restart 2 RX3 wsX3_restart ({ frames := 1, cells := 0, slots := 0, locals := 23 } : Room) := C
  have hiX3 : ∀ w ∈ u_ws RX3 TX3 12, w ∈ wsX3_restart := by decide +kernel
  have hf33 : Cond.fieldLink RX3 33 "RdfsRules$Rows" "rowAtSlot" "[I" ∈ wsX3_restart := by decide +kernel
  have hf40 : Cond.fieldLink RX3 40 "RdfsRules$Rows" "size" "I" ∈ wsX3_restart := by decide +kernel
  have hf44 : Cond.fieldLink RX3 44 "RdfsRules$Rows" "overfull" "Z" ∈ wsX3_restart := by decide +kernel
  have hf48 : Cond.fieldLink RX3 48 "RdfsRules$Rows" "axiomMemberships" "I" ∈ wsX3_restart := by decide +kernel
  refine z_aload_n (q := 1) C 0 rfl rfl dX3_restart_0 rfl ?_
  refine z_get (q := 4) (v := .ref (a 7)) C hiX3 0 7 rfl rfl (by decide) hf33 rfl dX3_restart_1 rfl ?_
  refine z_iconst (q := 5) C k_iconst_m1 dX3_restart_4 rfl ?_
  refine z_callS (q := 8) (n := 2) (As := [.ref (a 7), .int (-1)]) (rest := []) (wr := [(h, .inr (3, [.ref (a 0), .ref (a 1), .ref (a 2), .ref (a 3), .ref (a 4), .ref (a 5), .ref (a 6), .ref (a 7), .ref (a 8), .int n, .int ov, .int am])), (a 0, .inl (X.cI, 600, .inl (F 0))), (a 1, .inl (X.cI, 600, .inl (F 1))), (a 2, .inl (X.cI, 600, .inl (F 2))), (a 3, .inl (X.cI, 600, .inl (F 3))), (a 4, .inl (X.cI, 600, .inl (F 4))), (a 5, .inl (X.cI, 600, .inl (F 5))), (a 6, .inl (X.cI, 600, .inl (F 6))), (a 8, .inl (X.cZ, 600, .inl (F 8)))]) C (c_J7_fill_53178 X.l X.D X.2.1 (a 7) 1024 (by decide) (F 7) (-1)) gX3_restart_J7_fill_53178 rfl rfl rfl (by decide +kernel) (by decide) ⟨by first | decide | omega, by first | decide | omega⟩ [8] [0, 1, 2, 3, 4, 5, 6, 7, 9] rfl rfl (by decide) (by decide) (by decide) rfl rfl (Nat.le_of_ble_eq_true rfl) dX3_restart_5 rfl (fun v w1 hp => ?_)
  obtain ⟨f1, hf1, rfl, rfl⟩ := hp
  show zW X 2 [(h, .inr (3, [.ref (a 0), .ref (a 1), .ref (a 2), .ref (a 3), .ref (a 4), .ref (a 5), .ref (a 6), .ref (a 7), .ref (a 8), .int n, .int ov, .int am])), (a 0, .inl (X.cI, 600, .inl (F 0))), (a 1, .inl (X.cI, 600, .inl (F 1))), (a 2, .inl (X.cI, 600, .inl (F 2))), (a 3, .inl (X.cI, 600, .inl (F 3))), (a 4, .inl (X.cI, 600, .inl (F 4))), (a 5, .inl (X.cI, 600, .inl (F 5))), (a 6, .inl (X.cI, 600, .inl (F 6))), (a 8, .inl (X.cZ, 600, .inl (F 8))), (a 7, .inl (X.cI, 1024, .inl f1))] _ _ 8 _ []
  refine z_ws (ws' := [(h, .inr (3, [.ref (a 0), .ref (a 1), .ref (a 2), .ref (a 3), .ref (a 4), .ref (a 5), .ref (a 6), .ref (a 7), .ref (a 8), .int n, .int ov, .int am])), (a 0, .inl (X.cI, 600, .inl (F 0))), (a 1, .inl (X.cI, 600, .inl (F 1))), (a 2, .inl (X.cI, 600, .inl (F 2))), (a 3, .inl (X.cI, 600, .inl (F 3))), (a 4, .inl (X.cI, 600, .inl (F 4))), (a 5, .inl (X.cI, 600, .inl (F 5))), (a 6, .inl (X.cI, 600, .inl (F 6))), (a 7, .inl (X.cI, 1024, .inl f1)), (a 8, .inl (X.cZ, 600, .inl (F 8)))]) [0, 1, 2, 3, 4, 5, 6, 7, 9, 8] (by decide) rfl ?_
  refine z_aload_n (q := 9) C 0 rfl rfl dX3_restart_8 rfl ?_
  refine z_iconst (q := 10) C k_iconst_0 dX3_restart_9 rfl ?_
  refine z_put (q := 13) (ws' := [(h, .inr (3, [.ref (a 0), .ref (a 1), .ref (a 2), .ref (a 3), .ref (a 4), .ref (a 5), .ref (a 6), .ref (a 7), .ref (a 8), .int (nI 0), .int ov, .int am])), (a 0, .inl (X.cI, 600, .inl (F 0))), (a 1, .inl (X.cI, 600, .inl (F 1))), (a 2, .inl (X.cI, 600, .inl (F 2))), (a 3, .inl (X.cI, 600, .inl (F 3))), (a 4, .inl (X.cI, 600, .inl (F 4))), (a 5, .inl (X.cI, 600, .inl (F 5))), (a 6, .inl (X.cI, 600, .inl (F 6))), (a 7, .inl (X.cI, 1024, .inl f1)), (a 8, .inl (X.cZ, 600, .inl (F 8)))]) C hiX3 tyX3_ok nmX3 0 9 rfl rfl (by decide) hf40 rfl rfl rfl (Nat.le_of_ble_eq_true rfl) dX3_restart_10 rfl rfl ?_
  refine z_aload_n (q := 14) C 0 rfl rfl dX3_restart_13 rfl ?_
  refine z_iconst (q := 15) C k_iconst_0 dX3_restart_14 rfl ?_
  refine z_put (q := 18) (ws' := [(h, .inr (3, [.ref (a 0), .ref (a 1), .ref (a 2), .ref (a 3), .ref (a 4), .ref (a 5), .ref (a 6), .ref (a 7), .ref (a 8), .int (nI 0), .int (nI 0), .int am])), (a 0, .inl (X.cI, 600, .inl (F 0))), (a 1, .inl (X.cI, 600, .inl (F 1))), (a 2, .inl (X.cI, 600, .inl (F 2))), (a 3, .inl (X.cI, 600, .inl (F 3))), (a 4, .inl (X.cI, 600, .inl (F 4))), (a 5, .inl (X.cI, 600, .inl (F 5))), (a 6, .inl (X.cI, 600, .inl (F 6))), (a 7, .inl (X.cI, 1024, .inl f1)), (a 8, .inl (X.cZ, 600, .inl (F 8)))]) C hiX3 tyX3_ok nmX3 0 10 rfl rfl (by decide) hf44 rfl (by decide) (by decide) (Nat.le_of_ble_eq_true rfl) dX3_restart_15 rfl rfl ?_
  refine z_aload_n (q := 19) C 0 rfl rfl dX3_restart_18 rfl ?_
  refine z_iload_n (q := 20) C 1 rfl rfl dX3_restart_19 rfl ?_
  refine z_put (q := 23) (ws' := [(h, .inr (3, [.ref (a 0), .ref (a 1), .ref (a 2), .ref (a 3), .ref (a 4), .ref (a 5), .ref (a 6), .ref (a 7), .ref (a 8), .int (nI 0), .int (nI 0), .int am1])), (a 0, .inl (X.cI, 600, .inl (F 0))), (a 1, .inl (X.cI, 600, .inl (F 1))), (a 2, .inl (X.cI, 600, .inl (F 2))), (a 3, .inl (X.cI, 600, .inl (F 3))), (a 4, .inl (X.cI, 600, .inl (F 4))), (a 5, .inl (X.cI, 600, .inl (F 5))), (a 6, .inl (X.cI, 600, .inl (F 6))), (a 7, .inl (X.cI, 1024, .inl f1)), (a 8, .inl (X.cZ, 600, .inl (F 8)))]) C hiX3 tyX3_ok nmX3 0 11 rfl rfl (by decide) hf48 rfl rfl rfl (Nat.le_of_ble_eq_true rfl) dX3_restart_20 rfl rfl ?_
  refine z_vret C E (by omega) (by omega) dX3_restart_23 ?_
  exact ⟨set7 F f1, rowsRep.empty hf1, rfl, rfl⟩

set_option maxHeartbeats 4000000 in
set_option maxRecDepth 100000 in
theorem c_X4_init (l : Launch) (D : va_G) (g : ClassId × ClassId × ClassId) (h : Nat) : zM l yX4_init wsX4_init ({ frames := 1, cells := 1, slots := 40, locals := 12 } : Room) D g [.ref h] [(h, .inr (4, [.null, .int 0]))] 1 40 (fun v w1 => ∃ a : Nat, v = none ∧ w1 = [(h, .inr (4, [.ref a, .int (nI 0)])), (a, .inl (g.1, 40, .inl (fun _ => 0)))]) := by
  refine z_met (cc := cX4_init) (maxL := 1) (ret := none) (lv := [(0, .ref h)]) (by decide) rfl (Nat.le_of_ble_eq_true rfl) rfl ?_
  intro X hXD hXg hXl hnm C E
  subst hXD hXg hXl
  have C : zC X cX4_init 1 RX4 wsX4_init ({ frames := 1, cells := 1, slots := 40, locals := 12 } : Room) := C
  have hiX4 : ∀ w ∈ u_ws RX4 TX4 2, w ∈ wsX4_init := by decide +kernel
  have hf9 : Cond.fieldLink RX4 9 "RdfsRules$Terms" "literalTypes" "[I" ∈ wsX4_init := by decide +kernel
  have hf15 : Cond.fieldLink RX4 15 "RdfsRules$Terms" "literals" "I" ∈ wsX4_init := by decide +kernel
  have harrI : Cond.arrayClass .int ∈ wsX4_init := by decide +kernel
  have hoi : Cond.methodLink RX4 3 objectInit ∈ wsX4_init := by decide +kernel
  have hom : Cond.instanceMethod objectInit ∈ wsX4_init := by decide +kernel
  have hoc : Cond.code objectInit ⟨#[0xb1]⟩ 1 none ∈ wsX4_init := by decide +kernel
  refine z_aload_n (q := 1) C 0 rfl rfl dX4_init_0 rfl ?_
  refine z_objInit (q := 4) C hoi hom hoc (by decide) (Nat.le_of_ble_eq_true rfl) dX4_init_1 rfl ?_
  refine z_aload_n (q := 5) C 0 rfl rfl dX4_init_4 rfl ?_
  refine z_bipush (q := 7) C k_bipush_40 dX4_init_5 rfl ?_
  refine z_newI (q := 9) (m1 := 1) (m2 := 40) C harrI (by decide) (by decide) (by decide) dX4_init_7 rfl rfl rfl (fun q7 => ?_)
  show zW X 1 [(h, .inr (4, [.null, .int 0])), (q7, .inl (X.cI, 40, .inl (fun _ => 0)))] 1 40 9 _ [.ref q7, .ref h]
  refine z_putF (q := 12) (ws' := [(h, .inr (4, [.ref q7, .int 0])), (q7, .inl (X.cI, 40, .inl (fun _ => 0)))]) C hnm hiX4 tyX4_ok nmX4 0 0 rfl rfl (by decide) hf9 rfl rfl rfl rfl (Nat.le_of_ble_eq_true rfl) dX4_init_9 rfl rfl ?_
  refine z_aload_n (q := 13) C 0 rfl rfl dX4_init_12 rfl ?_
  refine z_iconst (q := 14) C k_iconst_0 dX4_init_13 rfl ?_
  refine z_put (q := 17) (ws' := [(h, .inr (4, [.ref q7, .int (nI 0)])), (q7, .inl (X.cI, 40, .inl (fun _ => 0)))]) C hiX4 tyX4_ok nmX4 0 1 rfl rfl (by decide) hf15 rfl rfl rfl (Nat.le_of_ble_eq_true rfl) dX4_init_14 rfl rfl ?_
  refine z_vret C E (by omega) (by omega) dX4_init_17 ?_
  exact ⟨q7, rfl, rfl⟩

def ad3 (a b c : Nat) : Nat → Nat := fun k => match k with
  | 0 => a
  | 1 => b
  | _ => c
def ad9 (a b c d e f g h i : Nat) : Nat → Nat := fun k => match k with
  | 0 => a
  | 1 => b
  | 2 => c
  | 3 => d
  | 4 => e
  | 5 => f
  | 6 => g
  | 7 => h
  | _ => i

set_option maxHeartbeats 4000000 in
set_option maxRecDepth 100000 in
theorem c_X1_init (l : Launch) (D : va_G) (g : ClassId × ClassId × ClassId) (h : Nat) : zM l yX1_init wsX1_init ({ frames := 1, cells := 3, slots := 240, locals := 12 } : Room) D g [.ref h] [(h, .inr (1, [.null, .null, .null, .int 0]))] 3 240 (fun v w1 => ∃ b : Nat → Nat, v = none ∧ w1 = [(h, .inr (1, [.ref (b 0), .ref (b 1), .ref (b 2), .int (nI 0)])), (b 0, .inl (g.1, 80, .inl (fun _ => 0))), (b 1, .inl (g.1, 80, .inl (fun _ => 0))), (b 2, .inl (g.1, 80, .inl (fun _ => 0)))]) := by
  refine z_met (cc := cX1_init) (maxL := 1) (ret := none) (lv := [(0, .ref h)]) (by decide) rfl (Nat.le_of_ble_eq_true rfl) rfl ?_
  intro X hXD hXg hXl hnm C E
  subst hXD hXg hXl
  have C : zC X cX1_init 1 RX1 wsX1_init ({ frames := 1, cells := 3, slots := 240, locals := 12 } : Room) := C
  have hiX1 : ∀ w ∈ u_ws RX1 TX1 4, w ∈ wsX1_init := by decide +kernel
  have hf9 : Cond.fieldLink RX1 9 "RdfsRules$GivenFacts" "subjects" "[I" ∈ wsX1_init := by decide +kernel
  have hf15 : Cond.fieldLink RX1 15 "RdfsRules$GivenFacts" "properties" "[I" ∈ wsX1_init := by decide +kernel
  have hf18 : Cond.fieldLink RX1 18 "RdfsRules$GivenFacts" "objects" "[I" ∈ wsX1_init := by decide +kernel
  have hf21 : Cond.fieldLink RX1 21 "RdfsRules$GivenFacts" "size" "I" ∈ wsX1_init := by decide +kernel
  have harrI : Cond.arrayClass .int ∈ wsX1_init := by decide +kernel
  have hoi : Cond.methodLink RX1 3 objectInit ∈ wsX1_init := by decide +kernel
  have hom : Cond.instanceMethod objectInit ∈ wsX1_init := by decide +kernel
  have hoc : Cond.code objectInit ⟨#[0xb1]⟩ 1 none ∈ wsX1_init := by decide +kernel
  refine z_aload_n (q := 1) C 0 rfl rfl dX1_init_0 rfl ?_
  refine z_objInit (q := 4) C hoi hom hoc (by decide) (Nat.le_of_ble_eq_true rfl) dX1_init_1 rfl ?_
  refine z_aload_n (q := 5) C 0 rfl rfl dX1_init_4 rfl ?_
  refine z_bipush (q := 7) C k_bipush_80 dX1_init_5 rfl ?_
  refine z_newI (q := 9) (m1 := 1) (m2 := 80) C harrI (by decide) (by decide) (by decide) dX1_init_7 rfl rfl rfl (fun q7 => ?_)
  show zW X 1 [(h, .inr (1, [.null, .null, .null, .int 0])), (q7, .inl (X.cI, 80, .inl (fun _ => 0)))] 1 80 9 _ [.ref q7, .ref h]
  refine z_putF (q := 12) (ws' := [(h, .inr (1, [.ref q7, .null, .null, .int 0])), (q7, .inl (X.cI, 80, .inl (fun _ => 0)))]) C hnm hiX1 tyX1_ok nmX1 0 0 rfl rfl (by decide) hf9 rfl rfl rfl rfl (Nat.le_of_ble_eq_true rfl) dX1_init_9 rfl rfl ?_
  refine z_aload_n (q := 13) C 0 rfl rfl dX1_init_12 rfl ?_
  refine z_bipush (q := 15) C k_bipush_80 dX1_init_13 rfl ?_
  refine z_newI (q := 17) (m1 := 2) (m2 := 160) C harrI (by decide) (by decide) (by decide) dX1_init_15 rfl rfl rfl (fun q15 => ?_)
  show zW X 1 [(h, .inr (1, [.ref q7, .null, .null, .int 0])), (q7, .inl (X.cI, 80, .inl (fun _ => 0))), (q15, .inl (X.cI, 80, .inl (fun _ => 0)))] 2 160 17 _ [.ref q15, .ref h]
  refine z_putF (q := 20) (ws' := [(h, .inr (1, [.ref q7, .ref q15, .null, .int 0])), (q7, .inl (X.cI, 80, .inl (fun _ => 0))), (q15, .inl (X.cI, 80, .inl (fun _ => 0)))]) C hnm hiX1 tyX1_ok nmX1 0 1 rfl rfl (by decide) hf15 rfl rfl rfl rfl (Nat.le_of_ble_eq_true rfl) dX1_init_17 rfl rfl ?_
  refine z_aload_n (q := 21) C 0 rfl rfl dX1_init_20 rfl ?_
  refine z_bipush (q := 23) C k_bipush_80 dX1_init_21 rfl ?_
  refine z_newI (q := 25) (m1 := 3) (m2 := 240) C harrI (by decide) (by decide) (by decide) dX1_init_23 rfl rfl rfl (fun q23 => ?_)
  show zW X 1 [(h, .inr (1, [.ref q7, .ref q15, .null, .int 0])), (q7, .inl (X.cI, 80, .inl (fun _ => 0))), (q15, .inl (X.cI, 80, .inl (fun _ => 0))), (q23, .inl (X.cI, 80, .inl (fun _ => 0)))] 3 240 25 _ [.ref q23, .ref h]
  refine z_putF (q := 28) (ws' := [(h, .inr (1, [.ref q7, .ref q15, .ref q23, .int 0])), (q7, .inl (X.cI, 80, .inl (fun _ => 0))), (q15, .inl (X.cI, 80, .inl (fun _ => 0))), (q23, .inl (X.cI, 80, .inl (fun _ => 0)))]) C hnm hiX1 tyX1_ok nmX1 0 2 rfl rfl (by decide) hf18 rfl rfl rfl rfl (Nat.le_of_ble_eq_true rfl) dX1_init_25 rfl rfl ?_
  refine z_aload_n (q := 29) C 0 rfl rfl dX1_init_28 rfl ?_
  refine z_iconst (q := 30) C k_iconst_0 dX1_init_29 rfl ?_
  refine z_put (q := 33) (ws' := [(h, .inr (1, [.ref q7, .ref q15, .ref q23, .int (nI 0)])), (q7, .inl (X.cI, 80, .inl (fun _ => 0))), (q15, .inl (X.cI, 80, .inl (fun _ => 0))), (q23, .inl (X.cI, 80, .inl (fun _ => 0)))]) C hiX1 tyX1_ok nmX1 0 3 rfl rfl (by decide) hf21 rfl rfl rfl (Nat.le_of_ble_eq_true rfl) dX1_init_30 rfl rfl ?_
  refine z_vret C E (by omega) (by omega) dX1_init_33 ?_
  exact ⟨ad3 q7 q15 q23, rfl, rfl⟩

set_option maxHeartbeats 4000000 in
set_option maxRecDepth 100000 in
theorem c_X0_init (l : Launch) (D : va_G) (g : ClassId × ClassId × ClassId) (h : Nat) (mb : Bool) : zM l yX0_init wsX0_init ({ frames := 1, cells := 0, slots := 0, locals := 12 } : Room) D g [.ref h, .int (zb mb)] [(h, .inr (0, [.int 0, .int 0, .int 0]))] 0 0 (fun v w1 => v = none ∧ w1 = [(h, .inr (0, [.int (zb mb), .int (zb false), .int (nI 9)]))]) := by
  refine z_met (cc := cX0_init) (maxL := 2) (ret := none) (lv := [(0, .ref h), (1, .int (zb mb))]) (by decide) rfl (Nat.le_of_ble_eq_true rfl) rfl ?_
  intro X hXD hXg hXl hnm C E
  subst hXD hXg hXl
  have C : zC X cX0_init 2 RX0 wsX0_init ({ frames := 1, cells := 0, slots := 0, locals := 12 } : Room) := C
  have hiX0 : ∀ w ∈ u_ws RX0 TX0 3, w ∈ wsX0_init := by decide +kernel
  have hf9 : Cond.fieldLink RX0 9 "RdfsRules$Axioms" "asked" "Z" ∈ wsX0_init := by decide +kernel
  have hf15 : Cond.fieldLink RX0 15 "RdfsRules$Axioms" "count" "I" ∈ wsX0_init := by decide +kernel
  have hf19 : Cond.fieldLink RX0 19 "RdfsRules$Axioms" "membershipsBelong" "Z" ∈ wsX0_init := by decide +kernel
  have hoi : Cond.methodLink RX0 3 objectInit ∈ wsX0_init := by decide +kernel
  have hom : Cond.instanceMethod objectInit ∈ wsX0_init := by decide +kernel
  have hoc : Cond.code objectInit ⟨#[0xb1]⟩ 1 none ∈ wsX0_init := by decide +kernel
  refine z_aload_n (q := 1) C 0 rfl rfl dX0_init_0 rfl ?_
  refine z_objInit (q := 4) C hoi hom hoc (by decide) (Nat.le_of_ble_eq_true rfl) dX0_init_1 rfl ?_
  refine z_aload_n (q := 5) C 0 rfl rfl dX0_init_4 rfl ?_
  refine z_iconst (q := 6) C k_iconst_0 dX0_init_5 rfl ?_
  refine z_put (q := 9) (ws' := [(h, .inr (0, [.int 0, .int (nI 0), .int 0]))]) C hiX0 tyX0_ok nmX0 0 1 rfl rfl (by decide) hf9 rfl (by decide) (by decide) (Nat.le_of_ble_eq_true rfl) dX0_init_6 rfl rfl ?_
  refine z_aload_n (q := 10) C 0 rfl rfl dX0_init_9 rfl ?_
  refine z_bipush (q := 12) C k_bipush_9 dX0_init_10 rfl ?_
  refine z_put (q := 15) (ws' := [(h, .inr (0, [.int 0, .int (nI 0), .int (nI 9)]))]) C hiX0 tyX0_ok nmX0 0 2 rfl rfl (by decide) hf15 rfl rfl rfl (Nat.le_of_ble_eq_true rfl) dX0_init_12 rfl rfl ?_
  refine z_aload_n (q := 16) C 0 rfl rfl dX0_init_15 rfl ?_
  refine z_iload_n (q := 17) C 1 rfl rfl dX0_init_16 rfl ?_
  refine z_putF (q := 20) (ws' := [(h, .inr (0, [.int (zb mb), .int (nI 0), .int (nI 9)]))]) C hnm hiX0 tyX0_ok nmX0 0 0 rfl rfl (by decide) hf19 rfl rfl (zb_nar _) (zb_fit _) (Nat.le_of_ble_eq_true rfl) dX0_init_17 rfl rfl ?_
  refine z_vret C E (by omega) (by omega) dX0_init_20 ?_
  exact ⟨rfl, rfl⟩

set_option maxHeartbeats 4000000 in
set_option maxRecDepth 100000 in
theorem c_X2_init (l : Launch) (D : va_G) (g : ClassId × ClassId × ClassId) (h ht hq : Nat) : zM l yX2_init wsX2_init ({ frames := 1, cells := 0, slots := 0, locals := 12 } : Room) D g [.ref h, .ref ht, .ref hq] [(h, .inr (2, [.null, .null, .int 0, .int 0, .int 0, .int 0, .int 0, .int 0]))] 0 0 (fun v w1 => v = none ∧ w1 = [(h, .inr (2, [.ref ht, .ref hq, .int (nI 0), .int (nI 0), .int (nI 0), .int (nI 0), .int (-1), .int (-1)]))]) := by
  refine z_met (cc := cX2_init) (maxL := 3) (ret := none) (lv := [(0, .ref h), (1, .ref ht), (2, .ref hq)]) (by decide) rfl (Nat.le_of_ble_eq_true rfl) rfl ?_
  intro X hXD hXg hXl hnm C E
  subst hXD hXg hXl
  have C : zC X cX2_init 3 RX2 wsX2_init ({ frames := 1, cells := 0, slots := 0, locals := 12 } : Room) := C
  have hiX2 : ∀ w ∈ u_ws RX2 TX2 8, w ∈ wsX2_init := by decide +kernel
  have hf9 : Cond.fieldLink RX2 9 "RdfsRules$Reasoner" "spent" "I" ∈ wsX2_init := by decide +kernel
  have hf15 : Cond.fieldLink RX2 15 "RdfsRules$Reasoner" "end" "I" ∈ wsX2_init := by decide +kernel
  have hf18 : Cond.fieldLink RX2 18 "RdfsRules$Reasoner" "round" "I" ∈ wsX2_init := by decide +kernel
  have hf21 : Cond.fieldLink RX2 21 "RdfsRules$Reasoner" "maker" "I" ∈ wsX2_init := by decide +kernel
  have hf24 : Cond.fieldLink RX2 24 "RdfsRules$Reasoner" "first" "I" ∈ wsX2_init := by decide +kernel
  have hf27 : Cond.fieldLink RX2 27 "RdfsRules$Reasoner" "second" "I" ∈ wsX2_init := by decide +kernel
  have hf30 : Cond.fieldLink RX2 30 "RdfsRules$Reasoner" "terms" "LRdfsRules$Terms;" ∈ wsX2_init := by decide +kernel
  have hf34 : Cond.fieldLink RX2 34 "RdfsRules$Reasoner" "rows" "LRdfsRules$Rows;" ∈ wsX2_init := by decide +kernel
  have hoi : Cond.methodLink RX2 3 objectInit ∈ wsX2_init := by decide +kernel
  have hom : Cond.instanceMethod objectInit ∈ wsX2_init := by decide +kernel
  have hoc : Cond.code objectInit ⟨#[0xb1]⟩ 1 none ∈ wsX2_init := by decide +kernel
  refine z_aload_n (q := 1) C 0 rfl rfl dX2_init_0 rfl ?_
  refine z_objInit (q := 4) C hoi hom hoc (by decide) (Nat.le_of_ble_eq_true rfl) dX2_init_1 rfl ?_
  refine z_aload_n (q := 5) C 0 rfl rfl dX2_init_4 rfl ?_
  refine z_iconst (q := 6) C k_iconst_0 dX2_init_5 rfl ?_
  refine z_put (q := 9) (ws' := [(h, .inr (2, [.null, .null, .int (nI 0), .int 0, .int 0, .int 0, .int 0, .int 0]))]) C hiX2 tyX2_ok nmX2 0 2 rfl rfl (by decide) hf9 rfl rfl rfl (Nat.le_of_ble_eq_true rfl) dX2_init_6 rfl rfl ?_
  refine z_aload_n (q := 10) C 0 rfl rfl dX2_init_9 rfl ?_
  refine z_iconst (q := 11) C k_iconst_0 dX2_init_10 rfl ?_
  refine z_put (q := 14) (ws' := [(h, .inr (2, [.null, .null, .int (nI 0), .int (nI 0), .int 0, .int 0, .int 0, .int 0]))]) C hiX2 tyX2_ok nmX2 0 3 rfl rfl (by decide) hf15 rfl rfl rfl (Nat.le_of_ble_eq_true rfl) dX2_init_11 rfl rfl ?_
  refine z_aload_n (q := 15) C 0 rfl rfl dX2_init_14 rfl ?_
  refine z_iconst (q := 16) C k_iconst_0 dX2_init_15 rfl ?_
  refine z_put (q := 19) (ws' := [(h, .inr (2, [.null, .null, .int (nI 0), .int (nI 0), .int (nI 0), .int 0, .int 0, .int 0]))]) C hiX2 tyX2_ok nmX2 0 4 rfl rfl (by decide) hf18 rfl rfl rfl (Nat.le_of_ble_eq_true rfl) dX2_init_16 rfl rfl ?_
  refine z_aload_n (q := 20) C 0 rfl rfl dX2_init_19 rfl ?_
  refine z_iconst (q := 21) C k_iconst_0 dX2_init_20 rfl ?_
  refine z_put (q := 24) (ws' := [(h, .inr (2, [.null, .null, .int (nI 0), .int (nI 0), .int (nI 0), .int (nI 0), .int 0, .int 0]))]) C hiX2 tyX2_ok nmX2 0 5 rfl rfl (by decide) hf21 rfl rfl rfl (Nat.le_of_ble_eq_true rfl) dX2_init_21 rfl rfl ?_
  refine z_aload_n (q := 25) C 0 rfl rfl dX2_init_24 rfl ?_
  refine z_iconst (q := 26) C k_iconst_m1 dX2_init_25 rfl ?_
  refine z_put (q := 29) (ws' := [(h, .inr (2, [.null, .null, .int (nI 0), .int (nI 0), .int (nI 0), .int (nI 0), .int (-1), .int 0]))]) C hiX2 tyX2_ok nmX2 0 6 rfl rfl (by decide) hf24 rfl rfl rfl (Nat.le_of_ble_eq_true rfl) dX2_init_26 rfl rfl ?_
  refine z_aload_n (q := 30) C 0 rfl rfl dX2_init_29 rfl ?_
  refine z_iconst (q := 31) C k_iconst_m1 dX2_init_30 rfl ?_
  refine z_put (q := 34) (ws' := [(h, .inr (2, [.null, .null, .int (nI 0), .int (nI 0), .int (nI 0), .int (nI 0), .int (-1), .int (-1)]))]) C hiX2 tyX2_ok nmX2 0 7 rfl rfl (by decide) hf27 rfl rfl rfl (Nat.le_of_ble_eq_true rfl) dX2_init_31 rfl rfl ?_
  refine z_aload_n (q := 35) C 0 rfl rfl dX2_init_34 rfl ?_
  refine z_aload_n (q := 36) C 1 rfl rfl dX2_init_35 rfl ?_
  refine z_putF (q := 39) (ws' := [(h, .inr (2, [.ref ht, .null, .int (nI 0), .int (nI 0), .int (nI 0), .int (nI 0), .int (-1), .int (-1)]))]) C hnm hiX2 tyX2_ok nmX2 0 0 rfl rfl (by decide) hf30 rfl rfl rfl rfl (Nat.le_of_ble_eq_true rfl) dX2_init_36 rfl rfl ?_
  refine z_aload_n (q := 40) C 0 rfl rfl dX2_init_39 rfl ?_
  refine z_aload_n (q := 41) C 2 rfl rfl dX2_init_40 rfl ?_
  refine z_put (q := 44) (ws' := [(h, .inr (2, [.ref ht, .ref hq, .int (nI 0), .int (nI 0), .int (nI 0), .int (nI 0), .int (-1), .int (-1)]))]) C hiX2 tyX2_ok nmX2 0 1 rfl rfl (by decide) hf34 rfl rfl rfl (Nat.le_of_ble_eq_true rfl) dX2_init_41 rfl rfl ?_
  refine z_vret C E (by omega) (by omega) dX2_init_44 ?_
  exact ⟨rfl, rfl⟩

set_option maxHeartbeats 4000000 in
set_option maxRecDepth 100000 in
theorem c_X3_init (l : Launch) (D : va_G) (g : ClassId × ClassId × ClassId) (h : Nat) : zM l yX3_init wsX3_init ({ frames := 1, cells := 9, slots := 5824, locals := 23 } : Room) D g [.ref h] [(h, .inr (3, [.null, .null, .null, .null, .null, .null, .null, .null, .null, .int 0, .int 0, .int 0]))] 9 5824 (fun v w1 => ∃ (a : Nat → Nat) (F1 : Nat → Nat → Int32), rowsRep F1 0 false ([], false) ∧ v = none ∧ w1 = [(h, .inr (3, [.ref (a 0), .ref (a 1), .ref (a 2), .ref (a 3), .ref (a 4), .ref (a 5), .ref (a 6), .ref (a 7), .ref (a 8), .int (nI 0), .int (zb false), .int (nI 0)])), (a 0, .inl (g.1, 600, .inl (F1 0))), (a 1, .inl (g.1, 600, .inl (F1 1))), (a 2, .inl (g.1, 600, .inl (F1 2))), (a 3, .inl (g.1, 600, .inl (F1 3))), (a 4, .inl (g.1, 600, .inl (F1 4))), (a 5, .inl (g.1, 600, .inl (F1 5))), (a 6, .inl (g.1, 600, .inl (F1 6))), (a 7, .inl (g.1, 1024, .inl (F1 7))), (a 8, .inl (g.2.1, 600, .inl (F1 8)))]) := by
  refine z_met (cc := cX3_init) (maxL := 1) (ret := none) (lv := [(0, .ref h)]) (by decide) rfl (Nat.le_of_ble_eq_true rfl) rfl ?_
  intro X hXD hXg hXl hnm C E
  subst hXD hXg hXl
  have C : zC X cX3_init 1 RX3 wsX3_init ({ frames := 1, cells := 9, slots := 5824, locals := 23 } : Room) := C
  have hiX3 : ∀ w ∈ u_ws RX3 TX3 12, w ∈ wsX3_init := by decide +kernel
  have hf9 : Cond.fieldLink RX3 9 "RdfsRules$Rows" "subjects" "[I" ∈ wsX3_init := by decide +kernel
  have hf15 : Cond.fieldLink RX3 15 "RdfsRules$Rows" "properties" "[I" ∈ wsX3_init := by decide +kernel
  have hf18 : Cond.fieldLink RX3 18 "RdfsRules$Rows" "objects" "[I" ∈ wsX3_init := by decide +kernel
  have hf21 : Cond.fieldLink RX3 21 "RdfsRules$Rows" "rules" "[I" ∈ wsX3_init := by decide +kernel
  have hf24 : Cond.fieldLink RX3 24 "RdfsRules$Rows" "firsts" "[I" ∈ wsX3_init := by decide +kernel
  have hf27 : Cond.fieldLink RX3 27 "RdfsRules$Rows" "seconds" "[I" ∈ wsX3_init := by decide +kernel
  have hf30 : Cond.fieldLink RX3 30 "RdfsRules$Rows" "rounds" "[I" ∈ wsX3_init := by decide +kernel
  have hf33 : Cond.fieldLink RX3 33 "RdfsRules$Rows" "rowAtSlot" "[I" ∈ wsX3_init := by decide +kernel
  have hf36 : Cond.fieldLink RX3 36 "RdfsRules$Rows" "rests" "[Z" ∈ wsX3_init := by decide +kernel
  have hf40 : Cond.fieldLink RX3 40 "RdfsRules$Rows" "size" "I" ∈ wsX3_init := by decide +kernel
  have hf44 : Cond.fieldLink RX3 44 "RdfsRules$Rows" "overfull" "Z" ∈ wsX3_init := by decide +kernel
  have hf48 : Cond.fieldLink RX3 48 "RdfsRules$Rows" "axiomMemberships" "I" ∈ wsX3_init := by decide +kernel
  have harrI : Cond.arrayClass .int ∈ wsX3_init := by decide +kernel
  have harrZ : Cond.arrayClass .boolean ∈ wsX3_init := by decide +kernel
  have hoi : Cond.methodLink RX3 3 objectInit ∈ wsX3_init := by decide +kernel
  have hom : Cond.instanceMethod objectInit ∈ wsX3_init := by decide +kernel
  have hoc : Cond.code objectInit ⟨#[0xb1]⟩ 1 none ∈ wsX3_init := by decide +kernel
  refine z_aload_n (q := 1) C 0 rfl rfl dX3_init_0 rfl ?_
  refine z_objInit (q := 4) C hoi hom hoc (by decide) (Nat.le_of_ble_eq_true rfl) dX3_init_1 rfl ?_
  refine z_aload_n (q := 5) C 0 rfl rfl dX3_init_4 rfl ?_
  refine z_sipush (q := 8) C k_sipush_600 dX3_init_5 rfl ?_
  refine z_newI (q := 10) (m1 := 1) (m2 := 600) C harrI (by decide) (by decide) (by decide) dX3_init_8 rfl rfl rfl (fun q8 => ?_)
  show zW X 1 [(h, .inr (3, [.null, .null, .null, .null, .null, .null, .null, .null, .null, .int 0, .int 0, .int 0])), (q8, .inl (X.cI, 600, .inl (fun _ => 0)))] 1 600 10 _ [.ref q8, .ref h]
  refine z_putF (q := 13) (ws' := [(h, .inr (3, [.ref q8, .null, .null, .null, .null, .null, .null, .null, .null, .int 0, .int 0, .int 0])), (q8, .inl (X.cI, 600, .inl (fun _ => 0)))]) C hnm hiX3 tyX3_ok nmX3 0 0 rfl rfl (by decide) hf9 rfl rfl rfl rfl (Nat.le_of_ble_eq_true rfl) dX3_init_10 rfl rfl ?_
  refine z_aload_n (q := 14) C 0 rfl rfl dX3_init_13 rfl ?_
  refine z_sipush (q := 17) C k_sipush_600 dX3_init_14 rfl ?_
  refine z_newI (q := 19) (m1 := 2) (m2 := 1200) C harrI (by decide) (by decide) (by decide) dX3_init_17 rfl rfl rfl (fun q17 => ?_)
  show zW X 1 [(h, .inr (3, [.ref q8, .null, .null, .null, .null, .null, .null, .null, .null, .int 0, .int 0, .int 0])), (q8, .inl (X.cI, 600, .inl (fun _ => 0))), (q17, .inl (X.cI, 600, .inl (fun _ => 0)))] 2 1200 19 _ [.ref q17, .ref h]
  refine z_putF (q := 22) (ws' := [(h, .inr (3, [.ref q8, .ref q17, .null, .null, .null, .null, .null, .null, .null, .int 0, .int 0, .int 0])), (q8, .inl (X.cI, 600, .inl (fun _ => 0))), (q17, .inl (X.cI, 600, .inl (fun _ => 0)))]) C hnm hiX3 tyX3_ok nmX3 0 1 rfl rfl (by decide) hf15 rfl rfl rfl rfl (Nat.le_of_ble_eq_true rfl) dX3_init_19 rfl rfl ?_
  refine z_aload_n (q := 23) C 0 rfl rfl dX3_init_22 rfl ?_
  refine z_sipush (q := 26) C k_sipush_600 dX3_init_23 rfl ?_
  refine z_newI (q := 28) (m1 := 3) (m2 := 1800) C harrI (by decide) (by decide) (by decide) dX3_init_26 rfl rfl rfl (fun q26 => ?_)
  show zW X 1 [(h, .inr (3, [.ref q8, .ref q17, .null, .null, .null, .null, .null, .null, .null, .int 0, .int 0, .int 0])), (q8, .inl (X.cI, 600, .inl (fun _ => 0))), (q17, .inl (X.cI, 600, .inl (fun _ => 0))), (q26, .inl (X.cI, 600, .inl (fun _ => 0)))] 3 1800 28 _ [.ref q26, .ref h]
  refine z_putF (q := 31) (ws' := [(h, .inr (3, [.ref q8, .ref q17, .ref q26, .null, .null, .null, .null, .null, .null, .int 0, .int 0, .int 0])), (q8, .inl (X.cI, 600, .inl (fun _ => 0))), (q17, .inl (X.cI, 600, .inl (fun _ => 0))), (q26, .inl (X.cI, 600, .inl (fun _ => 0)))]) C hnm hiX3 tyX3_ok nmX3 0 2 rfl rfl (by decide) hf18 rfl rfl rfl rfl (Nat.le_of_ble_eq_true rfl) dX3_init_28 rfl rfl ?_
  refine z_aload_n (q := 32) C 0 rfl rfl dX3_init_31 rfl ?_
  refine z_sipush (q := 35) C k_sipush_600 dX3_init_32 rfl ?_
  refine z_newI (q := 37) (m1 := 4) (m2 := 2400) C harrI (by decide) (by decide) (by decide) dX3_init_35 rfl rfl rfl (fun q35 => ?_)
  show zW X 1 [(h, .inr (3, [.ref q8, .ref q17, .ref q26, .null, .null, .null, .null, .null, .null, .int 0, .int 0, .int 0])), (q8, .inl (X.cI, 600, .inl (fun _ => 0))), (q17, .inl (X.cI, 600, .inl (fun _ => 0))), (q26, .inl (X.cI, 600, .inl (fun _ => 0))), (q35, .inl (X.cI, 600, .inl (fun _ => 0)))] 4 2400 37 _ [.ref q35, .ref h]
  refine z_putF (q := 40) (ws' := [(h, .inr (3, [.ref q8, .ref q17, .ref q26, .ref q35, .null, .null, .null, .null, .null, .int 0, .int 0, .int 0])), (q8, .inl (X.cI, 600, .inl (fun _ => 0))), (q17, .inl (X.cI, 600, .inl (fun _ => 0))), (q26, .inl (X.cI, 600, .inl (fun _ => 0))), (q35, .inl (X.cI, 600, .inl (fun _ => 0)))]) C hnm hiX3 tyX3_ok nmX3 0 3 rfl rfl (by decide) hf21 rfl rfl rfl rfl (Nat.le_of_ble_eq_true rfl) dX3_init_37 rfl rfl ?_
  refine z_aload_n (q := 41) C 0 rfl rfl dX3_init_40 rfl ?_
  refine z_sipush (q := 44) C k_sipush_600 dX3_init_41 rfl ?_
  refine z_newI (q := 46) (m1 := 5) (m2 := 3000) C harrI (by decide) (by decide) (by decide) dX3_init_44 rfl rfl rfl (fun q44 => ?_)
  show zW X 1 [(h, .inr (3, [.ref q8, .ref q17, .ref q26, .ref q35, .null, .null, .null, .null, .null, .int 0, .int 0, .int 0])), (q8, .inl (X.cI, 600, .inl (fun _ => 0))), (q17, .inl (X.cI, 600, .inl (fun _ => 0))), (q26, .inl (X.cI, 600, .inl (fun _ => 0))), (q35, .inl (X.cI, 600, .inl (fun _ => 0))), (q44, .inl (X.cI, 600, .inl (fun _ => 0)))] 5 3000 46 _ [.ref q44, .ref h]
  refine z_putF (q := 49) (ws' := [(h, .inr (3, [.ref q8, .ref q17, .ref q26, .ref q35, .ref q44, .null, .null, .null, .null, .int 0, .int 0, .int 0])), (q8, .inl (X.cI, 600, .inl (fun _ => 0))), (q17, .inl (X.cI, 600, .inl (fun _ => 0))), (q26, .inl (X.cI, 600, .inl (fun _ => 0))), (q35, .inl (X.cI, 600, .inl (fun _ => 0))), (q44, .inl (X.cI, 600, .inl (fun _ => 0)))]) C hnm hiX3 tyX3_ok nmX3 0 4 rfl rfl (by decide) hf24 rfl rfl rfl rfl (Nat.le_of_ble_eq_true rfl) dX3_init_46 rfl rfl ?_
  refine z_aload_n (q := 50) C 0 rfl rfl dX3_init_49 rfl ?_
  refine z_sipush (q := 53) C k_sipush_600 dX3_init_50 rfl ?_
  refine z_newI (q := 55) (m1 := 6) (m2 := 3600) C harrI (by decide) (by decide) (by decide) dX3_init_53 rfl rfl rfl (fun q53 => ?_)
  show zW X 1 [(h, .inr (3, [.ref q8, .ref q17, .ref q26, .ref q35, .ref q44, .null, .null, .null, .null, .int 0, .int 0, .int 0])), (q8, .inl (X.cI, 600, .inl (fun _ => 0))), (q17, .inl (X.cI, 600, .inl (fun _ => 0))), (q26, .inl (X.cI, 600, .inl (fun _ => 0))), (q35, .inl (X.cI, 600, .inl (fun _ => 0))), (q44, .inl (X.cI, 600, .inl (fun _ => 0))), (q53, .inl (X.cI, 600, .inl (fun _ => 0)))] 6 3600 55 _ [.ref q53, .ref h]
  refine z_putF (q := 58) (ws' := [(h, .inr (3, [.ref q8, .ref q17, .ref q26, .ref q35, .ref q44, .ref q53, .null, .null, .null, .int 0, .int 0, .int 0])), (q8, .inl (X.cI, 600, .inl (fun _ => 0))), (q17, .inl (X.cI, 600, .inl (fun _ => 0))), (q26, .inl (X.cI, 600, .inl (fun _ => 0))), (q35, .inl (X.cI, 600, .inl (fun _ => 0))), (q44, .inl (X.cI, 600, .inl (fun _ => 0))), (q53, .inl (X.cI, 600, .inl (fun _ => 0)))]) C hnm hiX3 tyX3_ok nmX3 0 5 rfl rfl (by decide) hf27 rfl rfl rfl rfl (Nat.le_of_ble_eq_true rfl) dX3_init_55 rfl rfl ?_
  refine z_aload_n (q := 59) C 0 rfl rfl dX3_init_58 rfl ?_
  refine z_sipush (q := 62) C k_sipush_600 dX3_init_59 rfl ?_
  refine z_newI (q := 64) (m1 := 7) (m2 := 4200) C harrI (by decide) (by decide) (by decide) dX3_init_62 rfl rfl rfl (fun q62 => ?_)
  show zW X 1 [(h, .inr (3, [.ref q8, .ref q17, .ref q26, .ref q35, .ref q44, .ref q53, .null, .null, .null, .int 0, .int 0, .int 0])), (q8, .inl (X.cI, 600, .inl (fun _ => 0))), (q17, .inl (X.cI, 600, .inl (fun _ => 0))), (q26, .inl (X.cI, 600, .inl (fun _ => 0))), (q35, .inl (X.cI, 600, .inl (fun _ => 0))), (q44, .inl (X.cI, 600, .inl (fun _ => 0))), (q53, .inl (X.cI, 600, .inl (fun _ => 0))), (q62, .inl (X.cI, 600, .inl (fun _ => 0)))] 7 4200 64 _ [.ref q62, .ref h]
  refine z_putF (q := 67) (ws' := [(h, .inr (3, [.ref q8, .ref q17, .ref q26, .ref q35, .ref q44, .ref q53, .ref q62, .null, .null, .int 0, .int 0, .int 0])), (q8, .inl (X.cI, 600, .inl (fun _ => 0))), (q17, .inl (X.cI, 600, .inl (fun _ => 0))), (q26, .inl (X.cI, 600, .inl (fun _ => 0))), (q35, .inl (X.cI, 600, .inl (fun _ => 0))), (q44, .inl (X.cI, 600, .inl (fun _ => 0))), (q53, .inl (X.cI, 600, .inl (fun _ => 0))), (q62, .inl (X.cI, 600, .inl (fun _ => 0)))]) C hnm hiX3 tyX3_ok nmX3 0 6 rfl rfl (by decide) hf30 rfl rfl rfl rfl (Nat.le_of_ble_eq_true rfl) dX3_init_64 rfl rfl ?_
  refine z_aload_n (q := 68) C 0 rfl rfl dX3_init_67 rfl ?_
  refine z_sipush (q := 71) C k_sipush_1024 dX3_init_68 rfl ?_
  refine z_newI (q := 73) (m1 := 8) (m2 := 5224) C harrI (by decide) (by decide) (by decide) dX3_init_71 rfl rfl rfl (fun q71 => ?_)
  show zW X 1 [(h, .inr (3, [.ref q8, .ref q17, .ref q26, .ref q35, .ref q44, .ref q53, .ref q62, .null, .null, .int 0, .int 0, .int 0])), (q8, .inl (X.cI, 600, .inl (fun _ => 0))), (q17, .inl (X.cI, 600, .inl (fun _ => 0))), (q26, .inl (X.cI, 600, .inl (fun _ => 0))), (q35, .inl (X.cI, 600, .inl (fun _ => 0))), (q44, .inl (X.cI, 600, .inl (fun _ => 0))), (q53, .inl (X.cI, 600, .inl (fun _ => 0))), (q62, .inl (X.cI, 600, .inl (fun _ => 0))), (q71, .inl (X.cI, 1024, .inl (fun _ => 0)))] 8 5224 73 _ [.ref q71, .ref h]
  refine z_putF (q := 76) (ws' := [(h, .inr (3, [.ref q8, .ref q17, .ref q26, .ref q35, .ref q44, .ref q53, .ref q62, .ref q71, .null, .int 0, .int 0, .int 0])), (q8, .inl (X.cI, 600, .inl (fun _ => 0))), (q17, .inl (X.cI, 600, .inl (fun _ => 0))), (q26, .inl (X.cI, 600, .inl (fun _ => 0))), (q35, .inl (X.cI, 600, .inl (fun _ => 0))), (q44, .inl (X.cI, 600, .inl (fun _ => 0))), (q53, .inl (X.cI, 600, .inl (fun _ => 0))), (q62, .inl (X.cI, 600, .inl (fun _ => 0))), (q71, .inl (X.cI, 1024, .inl (fun _ => 0)))]) C hnm hiX3 tyX3_ok nmX3 0 7 rfl rfl (by decide) hf33 rfl rfl rfl rfl (Nat.le_of_ble_eq_true rfl) dX3_init_73 rfl rfl ?_
  refine z_aload_n (q := 77) C 0 rfl rfl dX3_init_76 rfl ?_
  refine z_sipush (q := 80) C k_sipush_600 dX3_init_77 rfl ?_
  refine z_newZ (q := 82) (m1 := 9) (m2 := 5824) C harrZ (by decide) (by decide) (by decide) dX3_init_80 rfl rfl rfl (fun q80 => ?_)
  show zW X 1 [(h, .inr (3, [.ref q8, .ref q17, .ref q26, .ref q35, .ref q44, .ref q53, .ref q62, .ref q71, .null, .int 0, .int 0, .int 0])), (q8, .inl (X.cI, 600, .inl (fun _ => 0))), (q17, .inl (X.cI, 600, .inl (fun _ => 0))), (q26, .inl (X.cI, 600, .inl (fun _ => 0))), (q35, .inl (X.cI, 600, .inl (fun _ => 0))), (q44, .inl (X.cI, 600, .inl (fun _ => 0))), (q53, .inl (X.cI, 600, .inl (fun _ => 0))), (q62, .inl (X.cI, 600, .inl (fun _ => 0))), (q71, .inl (X.cI, 1024, .inl (fun _ => 0))), (q80, .inl (X.cZ, 600, .inl (fun _ => 0)))] 9 5824 82 _ [.ref q80, .ref h]
  refine z_putF (q := 85) (ws' := [(h, .inr (3, [.ref q8, .ref q17, .ref q26, .ref q35, .ref q44, .ref q53, .ref q62, .ref q71, .ref q80, .int 0, .int 0, .int 0])), (q8, .inl (X.cI, 600, .inl (fun _ => 0))), (q17, .inl (X.cI, 600, .inl (fun _ => 0))), (q26, .inl (X.cI, 600, .inl (fun _ => 0))), (q35, .inl (X.cI, 600, .inl (fun _ => 0))), (q44, .inl (X.cI, 600, .inl (fun _ => 0))), (q53, .inl (X.cI, 600, .inl (fun _ => 0))), (q62, .inl (X.cI, 600, .inl (fun _ => 0))), (q71, .inl (X.cI, 1024, .inl (fun _ => 0))), (q80, .inl (X.cZ, 600, .inl (fun _ => 0)))]) C hnm hiX3 tyX3_ok nmX3 0 8 rfl rfl (by decide) hf36 rfl rfl rfl rfl (Nat.le_of_ble_eq_true rfl) dX3_init_82 rfl rfl ?_
  refine z_aload_n (q := 86) C 0 rfl rfl dX3_init_85 rfl ?_
  refine z_iconst (q := 87) C k_iconst_0 dX3_init_86 rfl ?_
  refine z_put (q := 90) (ws' := [(h, .inr (3, [.ref q8, .ref q17, .ref q26, .ref q35, .ref q44, .ref q53, .ref q62, .ref q71, .ref q80, .int (nI 0), .int 0, .int 0])), (q8, .inl (X.cI, 600, .inl (fun _ => 0))), (q17, .inl (X.cI, 600, .inl (fun _ => 0))), (q26, .inl (X.cI, 600, .inl (fun _ => 0))), (q35, .inl (X.cI, 600, .inl (fun _ => 0))), (q44, .inl (X.cI, 600, .inl (fun _ => 0))), (q53, .inl (X.cI, 600, .inl (fun _ => 0))), (q62, .inl (X.cI, 600, .inl (fun _ => 0))), (q71, .inl (X.cI, 1024, .inl (fun _ => 0))), (q80, .inl (X.cZ, 600, .inl (fun _ => 0)))]) C hiX3 tyX3_ok nmX3 0 9 rfl rfl (by decide) hf40 rfl rfl rfl (Nat.le_of_ble_eq_true rfl) dX3_init_87 rfl rfl ?_
  refine z_aload_n (q := 91) C 0 rfl rfl dX3_init_90 rfl ?_
  refine z_iconst (q := 92) C k_iconst_0 dX3_init_91 rfl ?_
  refine z_put (q := 95) (ws' := [(h, .inr (3, [.ref q8, .ref q17, .ref q26, .ref q35, .ref q44, .ref q53, .ref q62, .ref q71, .ref q80, .int (nI 0), .int (nI 0), .int 0])), (q8, .inl (X.cI, 600, .inl (fun _ => 0))), (q17, .inl (X.cI, 600, .inl (fun _ => 0))), (q26, .inl (X.cI, 600, .inl (fun _ => 0))), (q35, .inl (X.cI, 600, .inl (fun _ => 0))), (q44, .inl (X.cI, 600, .inl (fun _ => 0))), (q53, .inl (X.cI, 600, .inl (fun _ => 0))), (q62, .inl (X.cI, 600, .inl (fun _ => 0))), (q71, .inl (X.cI, 1024, .inl (fun _ => 0))), (q80, .inl (X.cZ, 600, .inl (fun _ => 0)))]) C hiX3 tyX3_ok nmX3 0 10 rfl rfl (by decide) hf44 rfl (by decide) (by decide) (Nat.le_of_ble_eq_true rfl) dX3_init_92 rfl rfl ?_
  refine z_aload_n (q := 96) C 0 rfl rfl dX3_init_95 rfl ?_
  refine z_iconst (q := 97) C k_iconst_0 dX3_init_96 rfl ?_
  refine z_put (q := 100) (ws' := [(h, .inr (3, [.ref q8, .ref q17, .ref q26, .ref q35, .ref q44, .ref q53, .ref q62, .ref q71, .ref q80, .int (nI 0), .int (nI 0), .int (nI 0)])), (q8, .inl (X.cI, 600, .inl (fun _ => 0))), (q17, .inl (X.cI, 600, .inl (fun _ => 0))), (q26, .inl (X.cI, 600, .inl (fun _ => 0))), (q35, .inl (X.cI, 600, .inl (fun _ => 0))), (q44, .inl (X.cI, 600, .inl (fun _ => 0))), (q53, .inl (X.cI, 600, .inl (fun _ => 0))), (q62, .inl (X.cI, 600, .inl (fun _ => 0))), (q71, .inl (X.cI, 1024, .inl (fun _ => 0))), (q80, .inl (X.cZ, 600, .inl (fun _ => 0)))]) C hiX3 tyX3_ok nmX3 0 11 rfl rfl (by decide) hf48 rfl rfl rfl (Nat.le_of_ble_eq_true rfl) dX3_init_97 rfl rfl ?_
  refine z_aload_n (q := 101) C 0 rfl rfl dX3_init_100 rfl ?_
  refine z_get (q := 104) (v := .ref q71) C hiX3 0 7 rfl rfl (by decide) hf33 rfl dX3_init_101 rfl ?_
  refine z_iconst (q := 105) C k_iconst_m1 dX3_init_104 rfl ?_
  refine z_callS (q := 108) (n := 2) (As := [.ref q71, .int (-1)]) (rest := []) (wr := [(h, .inr (3, [.ref q8, .ref q17, .ref q26, .ref q35, .ref q44, .ref q53, .ref q62, .ref q71, .ref q80, .int (nI 0), .int (nI 0), .int (nI 0)])), (q8, .inl (X.cI, 600, .inl (fun _ => 0))), (q17, .inl (X.cI, 600, .inl (fun _ => 0))), (q26, .inl (X.cI, 600, .inl (fun _ => 0))), (q35, .inl (X.cI, 600, .inl (fun _ => 0))), (q44, .inl (X.cI, 600, .inl (fun _ => 0))), (q53, .inl (X.cI, 600, .inl (fun _ => 0))), (q62, .inl (X.cI, 600, .inl (fun _ => 0))), (q80, .inl (X.cZ, 600, .inl (fun _ => 0)))]) C (c_J7_fill_53178 X.l X.D X.2.1 q71 1024 (by decide) (fun _ => 0) (-1)) gX3_init_J7_fill_53178 rfl rfl rfl (by decide +kernel) (by decide) ⟨by first | decide | omega, by first | decide | omega⟩ [8] [0, 1, 2, 3, 4, 5, 6, 7, 9] rfl rfl (by decide) (by decide) (by decide) rfl rfl (Nat.le_of_ble_eq_true rfl) dX3_init_105 rfl (fun v w1 hp => ?_)
  obtain ⟨f1, hf1, rfl, rfl⟩ := hp
  show zW X 1 [(h, .inr (3, [.ref q8, .ref q17, .ref q26, .ref q35, .ref q44, .ref q53, .ref q62, .ref q71, .ref q80, .int (nI 0), .int (nI 0), .int (nI 0)])), (q8, .inl (X.cI, 600, .inl (fun _ => 0))), (q17, .inl (X.cI, 600, .inl (fun _ => 0))), (q26, .inl (X.cI, 600, .inl (fun _ => 0))), (q35, .inl (X.cI, 600, .inl (fun _ => 0))), (q44, .inl (X.cI, 600, .inl (fun _ => 0))), (q53, .inl (X.cI, 600, .inl (fun _ => 0))), (q62, .inl (X.cI, 600, .inl (fun _ => 0))), (q80, .inl (X.cZ, 600, .inl (fun _ => 0))), (q71, .inl (X.cI, 1024, .inl f1))] _ _ 108 _ []
  refine z_ws (ws' := [(h, .inr (3, [.ref q8, .ref q17, .ref q26, .ref q35, .ref q44, .ref q53, .ref q62, .ref q71, .ref q80, .int (nI 0), .int (nI 0), .int (nI 0)])), (q8, .inl (X.cI, 600, .inl (fun _ => 0))), (q17, .inl (X.cI, 600, .inl (fun _ => 0))), (q26, .inl (X.cI, 600, .inl (fun _ => 0))), (q35, .inl (X.cI, 600, .inl (fun _ => 0))), (q44, .inl (X.cI, 600, .inl (fun _ => 0))), (q53, .inl (X.cI, 600, .inl (fun _ => 0))), (q62, .inl (X.cI, 600, .inl (fun _ => 0))), (q71, .inl (X.cI, 1024, .inl f1)), (q80, .inl (X.cZ, 600, .inl (fun _ => 0)))]) [0, 1, 2, 3, 4, 5, 6, 7, 9, 8] (by decide) rfl ?_
  refine z_vret C E (by omega) (by omega) dX3_init_108 ?_
  exact ⟨ad9 q8 q17 q26 q35 q44 q53 q62 q71 q80, fun k => match k with | 7 => f1 | _ => fun _ => 0, rowsRep.empty hf1, rfl, rfl⟩
