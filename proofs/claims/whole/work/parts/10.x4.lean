/-! Terms -/
def plainB (x : Int32) : Bool := decide ((0 ≤ x.toInt ∧ x.toInt ≤ 11) ∨ (20 ≤ x.toInt ∧ x.toInt ≤ 28) ∨ (100 ≤ x.toInt ∧ x.toInt ≤ 199))
def litB (n : Nat) (x : Int32) : Bool := decide (300 ≤ x.toInt ∧ x.toInt < 300 + (n : Int))

set_option maxHeartbeats 4000000 in
set_option maxRecDepth 100000 in
theorem c_X4_literals (l : Launch) (D : va_G) (g : ClassId × ClassId × ClassId) (h a : Nat) (f : Nat → Int32) (n : Nat) : zM l yX4_literals wsX4_literals ({ frames := 0, cells := 0, slots := 0, locals := 0 } : Room) D g [.ref h] [(h, .inr (4, [.ref a, .int (nI n)])), (a, .inl (g.1, 40, .inl f))] 0 0 (fun v w1 => v = some (.int (nI n)) ∧ w1 = [(h, .inr (4, [.ref a, .int (nI n)])), (a, .inl (g.1, 40, .inl f))]) := by
  refine z_met (cc := cX4_literals) (maxL := 1) (ret := (some .int)) (lv := [(0, .ref h)]) (by decide) rfl (Nat.le_of_ble_eq_true rfl) rfl ?_
  intro X hXD hXg hXl hnm C E
  subst hXD hXg hXl
  have C : zC X cX4_literals 1 RX4 wsX4_literals ({ frames := 0, cells := 0, slots := 0, locals := 0 } : Room) := C
  have hiX4 : ∀ w ∈ u_ws RX4 TX4 2, w ∈ wsX4_literals := by decide +kernel
  have hf15 : Cond.fieldLink RX4 15 "RdfsRules$Terms" "literals" "I" ∈ wsX4_literals := by decide +kernel
  refine z_aload_n (q := 1) C 0 rfl rfl dX4_literals_0 rfl ?_
  refine z_get (q := 4) (v := .int (nI n)) C hiX4 0 1 rfl rfl (by decide) hf15 rfl dX4_literals_1 rfl ?_
  refine z_iret C E (by omega) (by omega) dX4_literals_4 ?_
  exact ⟨rfl, rfl⟩

set_option maxHeartbeats 4000000 in
set_option maxRecDepth 100000 in
theorem c_X4_isNonLiteral (l : Launch) (D : va_G) (g : ClassId × ClassId × ClassId) (h a n : Nat) (x : Int32) : zM l yX4_isNonLiteral wsX4_isNonLiteral ({ frames := 0, cells := 0, slots := 0, locals := 0 } : Room) D g [.ref h, .int x] [(h, .inr (4, [.ref a, .int (nI n)]))] 0 0 (fun v w1 => v = some (.int (zb (plainB x))) ∧ w1 = [(h, .inr (4, [.ref a, .int (nI n)]))]) := by
  refine z_met (cc := cX4_isNonLiteral) (maxL := 2) (ret := (some .boolean)) (lv := [(0, .ref h), (1, .int x)]) (by decide) rfl (Nat.le_of_ble_eq_true rfl) rfl ?_
  intro X hXD hXg hXl hnm C E
  subst hXD hXg hXl
  have C : zC X cX4_isNonLiteral 2 RX4 wsX4_isNonLiteral ({ frames := 0, cells := 0, slots := 0, locals := 0 } : Room) := C
  refine z_iload_n (q := 1) C 1 rfl rfl dX4_isNonLiteral_0 rfl ?_
  refine z_if_lt_i (q := 4) (tgt := 10) C rfl dX4_isNonLiteral_1 (by decide) rfl (fun c1 => ?_) (fun c1 => ?_)
  · skip
    refine z_iload_n (q := 11) C 1 rfl rfl dX4_isNonLiteral_10 rfl ?_
    refine z_bipush (q := 13) C k_bipush_20 dX4_isNonLiteral_11 rfl ?_
    refine z_icmp_lt_i (q := 16) (tgt := 22) C rfl ti_20 dX4_isNonLiteral_13 (by decide) rfl (fun c13 => ?_) (fun c13 => ?_)
    · skip
      refine z_iload_n (q := 23) C 1 rfl rfl dX4_isNonLiteral_22 rfl ?_
      refine z_bipush (q := 25) C k_bipush_100 dX4_isNonLiteral_23 rfl ?_
      refine z_icmp_lt_i (q := 28) (tgt := 39) C rfl ti_100 dX4_isNonLiteral_25 (by decide) rfl (fun c25 => ?_) (fun c25 => ?_)
      · skip
        refine z_iconst (q := 40) C k_iconst_0 dX4_isNonLiteral_39 rfl ?_
        refine z_zret C E (by omega) (by omega) (by decide) dX4_isNonLiteral_40 ?_
        exact ⟨congrArg (fun z => some (Value.int z)) (zb_is0 (decide_eq_false (by omega))), rfl⟩
      · skip
        refine z_iload_n (q := 29) C 1 rfl rfl dX4_isNonLiteral_28 rfl ?_
        refine z_sipush (q := 32) C k_sipush_199 dX4_isNonLiteral_29 rfl ?_
        refine z_icmp_gt_i (q := 35) (tgt := 39) C rfl ti_199 dX4_isNonLiteral_32 (by decide) rfl (fun c32 => ?_) (fun c32 => ?_)
        · skip
          refine z_iconst (q := 40) C k_iconst_0 dX4_isNonLiteral_39 rfl ?_
          refine z_zret C E (by omega) (by omega) (by decide) dX4_isNonLiteral_40 ?_
          exact ⟨congrArg (fun z => some (Value.int z)) (zb_is0 (decide_eq_false (by omega))), rfl⟩
        · skip
          refine z_iconst (q := 36) C k_iconst_1 dX4_isNonLiteral_35 rfl ?_
          refine z_goto (tgt := 40) C dX4_isNonLiteral_36 (by decide) ?_
          refine z_zret C E (by omega) (by omega) (by decide) dX4_isNonLiteral_40 ?_
          exact ⟨congrArg (fun z => some (Value.int z)) (zb_is1 (decide_eq_true (by omega))), rfl⟩
    · skip
      refine z_iload_n (q := 17) C 1 rfl rfl dX4_isNonLiteral_16 rfl ?_
      refine z_bipush (q := 19) C k_bipush_29 dX4_isNonLiteral_17 rfl ?_
      refine z_icmp_lt_i (q := 22) (tgt := 35) C rfl ti_29 dX4_isNonLiteral_19 (by decide) rfl (fun c19 => ?_) (fun c19 => ?_)
      · skip
        refine z_iconst (q := 36) C k_iconst_1 dX4_isNonLiteral_35 rfl ?_
        refine z_goto (tgt := 40) C dX4_isNonLiteral_36 (by decide) ?_
        refine z_zret C E (by omega) (by omega) (by decide) dX4_isNonLiteral_40 ?_
        exact ⟨congrArg (fun z => some (Value.int z)) (zb_is1 (decide_eq_true (by omega))), rfl⟩
      · skip
        refine z_iload_n (q := 23) C 1 rfl rfl dX4_isNonLiteral_22 rfl ?_
        refine z_bipush (q := 25) C k_bipush_100 dX4_isNonLiteral_23 rfl ?_
        refine z_icmp_lt_i (q := 28) (tgt := 39) C rfl ti_100 dX4_isNonLiteral_25 (by decide) rfl (fun c25 => ?_) (fun c25 => ?_)
        · skip
          refine z_iconst (q := 40) C k_iconst_0 dX4_isNonLiteral_39 rfl ?_
          refine z_zret C E (by omega) (by omega) (by decide) dX4_isNonLiteral_40 ?_
          exact ⟨congrArg (fun z => some (Value.int z)) (zb_is0 (decide_eq_false (by omega))), rfl⟩
        · skip
          refine z_iload_n (q := 29) C 1 rfl rfl dX4_isNonLiteral_28 rfl ?_
          refine z_sipush (q := 32) C k_sipush_199 dX4_isNonLiteral_29 rfl ?_
          refine z_icmp_gt_i (q := 35) (tgt := 39) C rfl ti_199 dX4_isNonLiteral_32 (by decide) rfl (fun c32 => ?_) (fun c32 => ?_)
          · skip
            refine z_iconst (q := 40) C k_iconst_0 dX4_isNonLiteral_39 rfl ?_
            refine z_zret C E (by omega) (by omega) (by decide) dX4_isNonLiteral_40 ?_
            exact ⟨congrArg (fun z => some (Value.int z)) (zb_is0 (decide_eq_false (by omega))), rfl⟩
          · skip
            refine z_iconst (q := 36) C k_iconst_1 dX4_isNonLiteral_35 rfl ?_
            refine z_goto (tgt := 40) C dX4_isNonLiteral_36 (by decide) ?_
            refine z_zret C E (by omega) (by omega) (by decide) dX4_isNonLiteral_40 ?_
            exact ⟨congrArg (fun z => some (Value.int z)) (zb_is1 (decide_eq_true (by omega))), rfl⟩
  · skip
    refine z_iload_n (q := 5) C 1 rfl rfl dX4_isNonLiteral_4 rfl ?_
    refine z_bipush (q := 7) C k_bipush_11 dX4_isNonLiteral_5 rfl ?_
    refine z_icmp_le_i (q := 10) (tgt := 35) C rfl ti_11 dX4_isNonLiteral_7 (by decide) rfl (fun c7 => ?_) (fun c7 => ?_)
    · skip
      refine z_iconst (q := 36) C k_iconst_1 dX4_isNonLiteral_35 rfl ?_
      refine z_goto (tgt := 40) C dX4_isNonLiteral_36 (by decide) ?_
      refine z_zret C E (by omega) (by omega) (by decide) dX4_isNonLiteral_40 ?_
      exact ⟨congrArg (fun z => some (Value.int z)) (zb_is1 (decide_eq_true (by omega))), rfl⟩
    · skip
      refine z_iload_n (q := 11) C 1 rfl rfl dX4_isNonLiteral_10 rfl ?_
      refine z_bipush (q := 13) C k_bipush_20 dX4_isNonLiteral_11 rfl ?_
      refine z_icmp_lt_i (q := 16) (tgt := 22) C rfl ti_20 dX4_isNonLiteral_13 (by decide) rfl (fun c13 => ?_) (fun c13 => ?_)
      · skip
        refine z_iload_n (q := 23) C 1 rfl rfl dX4_isNonLiteral_22 rfl ?_
        refine z_bipush (q := 25) C k_bipush_100 dX4_isNonLiteral_23 rfl ?_
        refine z_icmp_lt_i (q := 28) (tgt := 39) C rfl ti_100 dX4_isNonLiteral_25 (by decide) rfl (fun c25 => ?_) (fun c25 => ?_)
        · skip
          refine z_iconst (q := 40) C k_iconst_0 dX4_isNonLiteral_39 rfl ?_
          refine z_zret C E (by omega) (by omega) (by decide) dX4_isNonLiteral_40 ?_
          exact ⟨congrArg (fun z => some (Value.int z)) (zb_is0 (decide_eq_false (by omega))), rfl⟩
        · skip
          refine z_iload_n (q := 29) C 1 rfl rfl dX4_isNonLiteral_28 rfl ?_
          refine z_sipush (q := 32) C k_sipush_199 dX4_isNonLiteral_29 rfl ?_
          refine z_icmp_gt_i (q := 35) (tgt := 39) C rfl ti_199 dX4_isNonLiteral_32 (by decide) rfl (fun c32 => ?_) (fun c32 => ?_)
          · skip
            refine z_iconst (q := 40) C k_iconst_0 dX4_isNonLiteral_39 rfl ?_
            refine z_zret C E (by omega) (by omega) (by decide) dX4_isNonLiteral_40 ?_
            exact ⟨congrArg (fun z => some (Value.int z)) (zb_is0 (decide_eq_false (by omega))), rfl⟩
          · skip
            refine z_iconst (q := 36) C k_iconst_1 dX4_isNonLiteral_35 rfl ?_
            refine z_goto (tgt := 40) C dX4_isNonLiteral_36 (by decide) ?_
            refine z_zret C E (by omega) (by omega) (by decide) dX4_isNonLiteral_40 ?_
            exact ⟨congrArg (fun z => some (Value.int z)) (zb_is1 (decide_eq_true (by omega))), rfl⟩
      · skip
        refine z_iload_n (q := 17) C 1 rfl rfl dX4_isNonLiteral_16 rfl ?_
        refine z_bipush (q := 19) C k_bipush_29 dX4_isNonLiteral_17 rfl ?_
        refine z_icmp_lt_i (q := 22) (tgt := 35) C rfl ti_29 dX4_isNonLiteral_19 (by decide) rfl (fun c19 => ?_) (fun c19 => ?_)
        · skip
          refine z_iconst (q := 36) C k_iconst_1 dX4_isNonLiteral_35 rfl ?_
          refine z_goto (tgt := 40) C dX4_isNonLiteral_36 (by decide) ?_
          refine z_zret C E (by omega) (by omega) (by decide) dX4_isNonLiteral_40 ?_
          exact ⟨congrArg (fun z => some (Value.int z)) (zb_is1 (decide_eq_true (by omega))), rfl⟩
        · skip
          refine z_iload_n (q := 23) C 1 rfl rfl dX4_isNonLiteral_22 rfl ?_
          refine z_bipush (q := 25) C k_bipush_100 dX4_isNonLiteral_23 rfl ?_
          refine z_icmp_lt_i (q := 28) (tgt := 39) C rfl ti_100 dX4_isNonLiteral_25 (by decide) rfl (fun c25 => ?_) (fun c25 => ?_)
          · skip
            refine z_iconst (q := 40) C k_iconst_0 dX4_isNonLiteral_39 rfl ?_
            refine z_zret C E (by omega) (by omega) (by decide) dX4_isNonLiteral_40 ?_
            exact ⟨congrArg (fun z => some (Value.int z)) (zb_is0 (decide_eq_false (by omega))), rfl⟩
          · skip
            refine z_iload_n (q := 29) C 1 rfl rfl dX4_isNonLiteral_28 rfl ?_
            refine z_sipush (q := 32) C k_sipush_199 dX4_isNonLiteral_29 rfl ?_
            refine z_icmp_gt_i (q := 35) (tgt := 39) C rfl ti_199 dX4_isNonLiteral_32 (by decide) rfl (fun c32 => ?_) (fun c32 => ?_)
            · skip
              refine z_iconst (q := 40) C k_iconst_0 dX4_isNonLiteral_39 rfl ?_
              refine z_zret C E (by omega) (by omega) (by decide) dX4_isNonLiteral_40 ?_
              exact ⟨congrArg (fun z => some (Value.int z)) (zb_is0 (decide_eq_false (by omega))), rfl⟩
            · skip
              refine z_iconst (q := 36) C k_iconst_1 dX4_isNonLiteral_35 rfl ?_
              refine z_goto (tgt := 40) C dX4_isNonLiteral_36 (by decide) ?_
              refine z_zret C E (by omega) (by omega) (by decide) dX4_isNonLiteral_40 ?_
              exact ⟨congrArg (fun z => some (Value.int z)) (zb_is1 (decide_eq_true (by omega))), rfl⟩

set_option maxHeartbeats 4000000 in
set_option maxRecDepth 100000 in
theorem c_X4_isLiteral (l : Launch) (D : va_G) (g : ClassId × ClassId × ClassId) (h a n : Nat) (hn : n ≤ 40) (x : Int32) : zM l yX4_isLiteral wsX4_isLiteral ({ frames := 0, cells := 0, slots := 0, locals := 0 } : Room) D g [.ref h, .int x] [(h, .inr (4, [.ref a, .int (nI n)]))] 0 0 (fun v w1 => v = some (.int (zb (litB n x))) ∧ w1 = [(h, .inr (4, [.ref a, .int (nI n)]))]) := by
  refine z_met (cc := cX4_isLiteral) (maxL := 2) (ret := (some .boolean)) (lv := [(0, .ref h), (1, .int x)]) (by decide) rfl (Nat.le_of_ble_eq_true rfl) rfl ?_
  intro X hXD hXg hXl hnm C E
  subst hXD hXg hXl
  have C : zC X cX4_isLiteral 2 RX4 wsX4_isLiteral ({ frames := 0, cells := 0, slots := 0, locals := 0 } : Room) := C
  have hiX4 : ∀ w ∈ u_ws RX4 TX4 2, w ∈ wsX4_isLiteral := by decide +kernel
  have hf15 : Cond.fieldLink RX4 15 "RdfsRules$Terms" "literals" "I" ∈ wsX4_isLiteral := by decide +kernel
  refine z_iload_n (q := 1) C 1 rfl rfl dX4_isLiteral_0 rfl ?_
  refine z_sipush (q := 4) C k_sipush_300 dX4_isLiteral_1 rfl ?_
  refine z_icmp_lt_i (q := 7) (tgt := 23) C rfl ti_300 dX4_isLiteral_4 (by decide) rfl (fun c4 => ?_) (fun c4 => ?_)
  · skip
    refine z_iconst (q := 24) C k_iconst_0 dX4_isLiteral_23 rfl ?_
    refine z_zret C E (by omega) (by omega) (by decide) dX4_isLiteral_24 ?_
    exact ⟨congrArg (fun z => some (Value.int z)) (zb_is0 (decide_eq_false (by omega))), rfl⟩
  · skip
    refine z_iload_n (q := 8) C 1 rfl rfl dX4_isLiteral_7 rfl ?_
    refine z_sipush (q := 11) C k_sipush_300 dX4_isLiteral_8 rfl ?_
    refine z_aload_n (q := 12) C 0 rfl rfl dX4_isLiteral_11 rfl ?_
    refine z_get (q := 15) (v := .int (nI n)) C hiX4 0 1 rfl rfl (by decide) hf15 rfl dX4_isLiteral_12 rfl ?_
    refine z_iadd (q := 16) C dX4_isLiteral_15 rfl ?_
    refine z_eqi (y := nI (300 + n)) (nI_add 300 n) ?_
    refine z_icmp_ge_i (q := 19) (tgt := 23) C rfl (nI_toInt (n := 300 + n) (by omega)) dX4_isLiteral_16 (by decide) rfl (fun c16 => ?_) (fun c16 => ?_)
    · skip
      refine z_iconst (q := 24) C k_iconst_0 dX4_isLiteral_23 rfl ?_
      refine z_zret C E (by omega) (by omega) (by decide) dX4_isLiteral_24 ?_
      exact ⟨congrArg (fun z => some (Value.int z)) (zb_is0 (decide_eq_false (by omega))), rfl⟩
    · skip
      refine z_iconst (q := 20) C k_iconst_1 dX4_isLiteral_19 rfl ?_
      refine z_goto (tgt := 24) C dX4_isLiteral_20 (by decide) ?_
      refine z_zret C E (by omega) (by omega) (by decide) dX4_isLiteral_24 ?_
      exact ⟨congrArg (fun z => some (Value.int z)) (zb_is1 (decide_eq_true (by omega))), rfl⟩

set_option maxHeartbeats 4000000 in
set_option maxRecDepth 100000 in
theorem c_X4_isTerm (l : Launch) (D : va_G) (g : ClassId × ClassId × ClassId) (h a n : Nat) (hn : n ≤ 40) (x : Int32) : zM l yX4_isTerm wsX4_isTerm ({ frames := 1, cells := 0, slots := 0, locals := 21 } : Room) D g [.ref h, .int x] [(h, .inr (4, [.ref a, .int (nI n)]))] 0 0 (fun v w1 => v = some (.int (zb (plainB x || litB n x))) ∧ w1 = [(h, .inr (4, [.ref a, .int (nI n)]))]) := by
  refine z_met (cc := cX4_isTerm) (maxL := 2) (ret := (some .boolean)) (lv := [(0, .ref h), (1, .int x)]) (by decide) rfl (Nat.le_of_ble_eq_true rfl) rfl ?_
  intro X hXD hXg hXl hnm C E
  subst hXD hXg hXl
  have C : zC X cX4_isTerm 2 RX4 wsX4_isTerm ({ frames := 1, cells := 0, slots := 0, locals := 21 } : Room) := C
  refine z_aload_n (q := 1) C 0 rfl rfl dX4_isTerm_0 rfl ?_
  refine z_iload_n (q := 2) C 1 rfl rfl dX4_isTerm_1 rfl ?_
  refine z_callV (q := 5) (n := 1) (As := [.int x]) (rest := []) (wr := []) C (c_X4_isNonLiteral X.l X.D X.2.1 h a n x) gX4_isTerm_X4_isNonLiteral rfl rfl rfl (by decide +kernel) (by decide) ⟨by first | decide | omega, by first | decide | omega⟩ 0 4 rfl rfl [0] [] rfl rfl (by decide) (by decide) (by decide) rfl rfl (Nat.le_of_ble_eq_true rfl) dX4_isTerm_2 rfl (fun v w1 hp => ?_)
  obtain ⟨rfl, rfl⟩ := hp
  show zW X 2 [(h, .inr (4, [.ref a, .int (nI n)]))] _ _ 5 _ [.int (zb (plainB x))]
  refine z_if_ne_b (q := 8) (tgt := 16) C dX4_isTerm_5 (by decide) rfl (fun c5 => ?_) (fun c5 => ?_)
  · skip
    refine z_iconst (q := 17) C k_iconst_1 dX4_isTerm_16 rfl ?_
    refine z_goto (tgt := 21) C dX4_isTerm_17 (by decide) ?_
    refine z_zret C E (by omega) (by omega) (by decide) dX4_isTerm_21 ?_
    refine ⟨congrArg (fun z => some (Value.int z)) (zb_is1 ?_), rfl⟩
    simp [*]
  · skip
    refine z_aload_n (q := 9) C 0 rfl rfl dX4_isTerm_8 rfl ?_
    refine z_iload_n (q := 10) C 1 rfl rfl dX4_isTerm_9 rfl ?_
    refine z_callV (q := 13) (n := 1) (As := [.int x]) (rest := []) (wr := []) C (c_X4_isLiteral X.l X.D X.2.1 h a n hn x) gX4_isTerm_X4_isLiteral rfl rfl rfl (by decide +kernel) (by decide) ⟨by first | decide | omega, by first | decide | omega⟩ 0 4 rfl rfl [0] [] rfl rfl (by decide) (by decide) (by decide) rfl rfl (Nat.le_of_ble_eq_true rfl) dX4_isTerm_10 rfl (fun v w1 hp => ?_)
    obtain ⟨rfl, rfl⟩ := hp
    show zW X 2 [(h, .inr (4, [.ref a, .int (nI n)]))] _ _ 13 _ [.int (zb (litB n x))]
    refine z_if_eq_b (q := 16) (tgt := 20) C dX4_isTerm_13 (by decide) rfl (fun c13 => ?_) (fun c13 => ?_)
    · skip
      refine z_iconst (q := 21) C k_iconst_0 dX4_isTerm_20 rfl ?_
      refine z_zret C E (by omega) (by omega) (by decide) dX4_isTerm_21 ?_
      refine ⟨congrArg (fun z => some (Value.int z)) (zb_is0 ?_), rfl⟩
      simp [*]
    · skip
      refine z_iconst (q := 17) C k_iconst_1 dX4_isTerm_16 rfl ?_
      refine z_goto (tgt := 21) C dX4_isTerm_17 (by decide) ?_
      refine z_zret C E (by omega) (by omega) (by decide) dX4_isTerm_21 ?_
      refine ⟨congrArg (fun z => some (Value.int z)) (zb_is1 ?_), rfl⟩
      simp [*]

theorem lit_sub {n : Nat} {x : Int32} (h : 300 ≤ x.toInt ∧ x.toInt < 300 + (n : Int)) : x - nI 300 = nI (x.toInt.toNat - 300) := by
  obtain ⟨j, hj, rfl⟩ := nI_of (x := x) (by rw [Int32.lt_iff_toInt_lt]; show ¬ x.toInt < 0; omega)
  rw [nI_toInt hj] at h ⊢
  exact pk_sub (by omega)
set_option maxHeartbeats 4000000 in
set_option maxRecDepth 100000 in
theorem c_X4_typeOf (l : Launch) (D : va_G) (g : ClassId × ClassId × ClassId) (h a : Nat) (f : Nat → Int32) (n : Nat) (hn : n ≤ 40) (x : Int32) : zM l yX4_typeOf wsX4_typeOf ({ frames := 1, cells := 0, slots := 0, locals := 21 } : Room) D g [.ref h, .int x] [(h, .inr (4, [.ref a, .int (nI n)])), (a, .inl (g.1, 40, .inl f))] 0 0 (fun v w1 => v = some (.int (if litB n x then f (x.toInt.toNat - 300) else -1)) ∧ w1 = [(h, .inr (4, [.ref a, .int (nI n)])), (a, .inl (g.1, 40, .inl f))]) := by
  refine z_met (cc := cX4_typeOf) (maxL := 2) (ret := (some .int)) (lv := [(0, .ref h), (1, .int x)]) (by decide) rfl (Nat.le_of_ble_eq_true rfl) rfl ?_
  intro X hXD hXg hXl hnm C E
  subst hXD hXg hXl
  have C : zC X cX4_typeOf 2 RX4 wsX4_typeOf ({ frames := 1, cells := 0, slots := 0, locals := 21 } : Room) := C
  have hiX4 : ∀ w ∈ u_ws RX4 TX4 2, w ∈ wsX4_typeOf := by decide +kernel
  have hf9 : Cond.fieldLink RX4 9 "RdfsRules$Terms" "literalTypes" "[I" ∈ wsX4_typeOf := by decide +kernel
  refine z_aload_n (q := 1) C 0 rfl rfl dX4_typeOf_0 rfl ?_
  refine z_iload_n (q := 2) C 1 rfl rfl dX4_typeOf_1 rfl ?_
  refine z_callV (q := 5) (n := 1) (As := [.int x]) (rest := []) (wr := [(a, .inl (X.cI, 40, .inl f))]) C (c_X4_isLiteral X.l X.D X.2.1 h a n hn x) gX4_typeOf_X4_isLiteral rfl rfl rfl (by decide +kernel) (by decide) ⟨by first | decide | omega, by first | decide | omega⟩ 0 4 rfl rfl [0] [1] rfl rfl (by decide) (by decide) (by decide) rfl rfl (Nat.le_of_ble_eq_true rfl) dX4_typeOf_2 rfl (fun v w1 hp => ?_)
  obtain ⟨rfl, rfl⟩ := hp
  show zW X 2 [(a, .inl (X.cI, 40, .inl f)), (h, .inr (4, [.ref a, .int (nI n)]))] _ _ 5 _ [.int (zb (litB n x))]
  refine z_ws (ws' := [(h, .inr (4, [.ref a, .int (nI n)])), (a, .inl (X.cI, 40, .inl f))]) [1, 0] (by decide) rfl ?_
  refine z_if_eq_b (q := 8) (tgt := 21) C dX4_typeOf_5 (by decide) rfl (fun c5 => ?_) (fun c5 => ?_)
  · skip
    refine z_iconst (q := 22) C k_iconst_m1 dX4_typeOf_21 rfl ?_
    refine z_iret C E (by omega) (by omega) dX4_typeOf_22 ?_
    exact ⟨by simp [*], rfl⟩
  · skip
    refine z_aload_n (q := 9) C 0 rfl rfl dX4_typeOf_8 rfl ?_
    refine z_get (q := 12) (v := .ref a) C hiX4 0 0 rfl rfl (by decide) hf9 rfl dX4_typeOf_9 rfl ?_
    refine z_iload_n (q := 13) C 1 rfl rfl dX4_typeOf_12 rfl ?_
    refine z_sipush (q := 16) C k_sipush_300 dX4_typeOf_13 rfl ?_
    refine z_isub (q := 17) C dX4_typeOf_16 rfl ?_
    refine z_eqi (y := nI (x.toInt.toNat - 300)) (lit_sub (of_decide_eq_true c5)) ?_
    refine z_iald (q := 18) C 1 rfl (i := x.toInt.toNat - 300) (by have := of_decide_eq_true c5; omega) (by decide) dX4_typeOf_17 rfl ?_
    refine z_goto (tgt := 22) C dX4_typeOf_18 (by decide) ?_
    refine z_iret C E (by omega) (by omega) dX4_typeOf_22 ?_
    exact ⟨by simp [*], rfl⟩

set_option maxHeartbeats 4000000 in
set_option maxRecDepth 100000 in
theorem c_X4_addLiteral (l : Launch) (D : va_G) (g : ClassId × ClassId × ClassId) (h a : Nat) (f : Nat → Int32) (n : Nat) (hn : n < 40) (x : Int32) : zM l yX4_addLiteral wsX4_addLiteral ({ frames := 0, cells := 0, slots := 0, locals := 0 } : Room) D g [.ref h, .int x] [(h, .inr (4, [.ref a, .int (nI n)])), (a, .inl (g.1, 40, .inl f))] 0 0 (fun v w1 => v = some (.int (nI (300 + (n + 1) - 1))) ∧ w1 = [(h, .inr (4, [.ref a, .int (nI (n + 1))])), (a, .inl (g.1, 40, .inl (upd f n x)))]) := by
  refine z_met (cc := cX4_addLiteral) (maxL := 2) (ret := (some .int)) (lv := [(0, .ref h), (1, .int x)]) (by decide) rfl (Nat.le_of_ble_eq_true rfl) rfl ?_
  intro X hXD hXg hXl hnm C E
  subst hXD hXg hXl
  have C : zC X cX4_addLiteral 2 RX4 wsX4_addLiteral ({ frames := 0, cells := 0, slots := 0, locals := 0 } : Room) := C
  have hiX4 : ∀ w ∈ u_ws RX4 TX4 2, w ∈ wsX4_addLiteral := by decide +kernel
  have hf9 : Cond.fieldLink RX4 9 "RdfsRules$Terms" "literalTypes" "[I" ∈ wsX4_addLiteral := by decide +kernel
  have hf15 : Cond.fieldLink RX4 15 "RdfsRules$Terms" "literals" "I" ∈ wsX4_addLiteral := by decide +kernel
  refine z_aload_n (q := 1) C 0 rfl rfl dX4_addLiteral_0 rfl ?_
  refine z_get (q := 4) (v := .ref a) C hiX4 0 0 rfl rfl (by decide) hf9 rfl dX4_addLiteral_1 rfl ?_
  refine z_aload_n (q := 5) C 0 rfl rfl dX4_addLiteral_4 rfl ?_
  refine z_get (q := 8) (v := .int (nI n)) C hiX4 0 1 rfl rfl (by decide) hf15 rfl dX4_addLiteral_5 rfl ?_
  refine z_iload_n (q := 9) C 1 rfl rfl dX4_addLiteral_8 rfl ?_
  refine z_iast (q := 10) (ws' := [(h, .inr (4, [.ref a, .int (nI n)])), (a, .inl (X.cI, 40, .inl (upd f n x)))]) C 1 rfl (i := n) (by omega) (by decide) dX4_addLiteral_9 rfl rfl ?_
  refine z_aload_n (q := 11) C 0 rfl rfl dX4_addLiteral_10 rfl ?_
  refine z_dup (q := 12) C rfl dX4_addLiteral_11 rfl ?_
  refine z_get (q := 15) (v := .int (nI n)) C hiX4 0 1 rfl rfl (by decide) hf15 rfl dX4_addLiteral_12 rfl ?_
  refine z_iconst (q := 16) C k_iconst_1 dX4_addLiteral_15 rfl ?_
  refine z_iadd (q := 17) C dX4_addLiteral_16 rfl ?_
  refine z_eqi (y := nI (n + 1)) (nI_add n 1) ?_
  refine z_put (q := 20) (ws' := [(h, .inr (4, [.ref a, .int (nI (n + 1))])), (a, .inl (X.cI, 40, .inl (upd f n x)))]) C hiX4 tyX4_ok nmX4 0 1 rfl rfl (by decide) hf15 rfl rfl rfl (Nat.le_of_ble_eq_true rfl) dX4_addLiteral_17 rfl rfl ?_
  refine z_sipush (q := 23) C k_sipush_300 dX4_addLiteral_20 rfl ?_
  refine z_aload_n (q := 24) C 0 rfl rfl dX4_addLiteral_23 rfl ?_
  refine z_get (q := 27) (v := .int (nI (n + 1))) C hiX4 0 1 rfl rfl (by decide) hf15 rfl dX4_addLiteral_24 rfl ?_
  refine z_iadd (q := 28) C dX4_addLiteral_27 rfl ?_
  refine z_eqi (y := nI (300 + (n + 1))) (nI_add 300 (n + 1)) ?_
  refine z_iconst (q := 29) C k_iconst_1 dX4_addLiteral_28 rfl ?_
  refine z_isub (q := 30) C dX4_addLiteral_29 rfl ?_
  refine z_eqi (y := nI ((300 + (n + 1)) - 1)) (pk_sub (a := 300 + (n + 1)) (b := 1) (by omega)) ?_
  refine z_iret C E (by omega) (by omega) dX4_addLiteral_30 ?_
  exact ⟨rfl, rfl⟩
