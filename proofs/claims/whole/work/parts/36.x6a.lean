set_option maxHeartbeats 4000000 in
set_option maxRecDepth 100000 in
theorem c_X6_thrown (l : Launch) (D : va_G) (g : ClassId × ClassId × ClassId) (hm : Nat) (e : Nat → Nat) (M : Nat → Nat → Int32) (cd : Int32) (mb ak : Bool) (cnt k nl n m md : Nat) (fu : Bool) : zM l yX6_thrown wsX6_thrown ({ frames := 0, cells := 0, slots := 0, locals := 0 } : Room) D g [.ref hm] [(hm, .inr (6, [.int cd, .int (zb mb), .int (zb ak), .int (nI cnt), .int (nI k), .ref (e 0), .int (nI nl), .ref (e 1), .int (nI n), .ref (e 2), .int (nI m), .int (nI md), .ref (e 3), .ref (e 4), .int (zb fu), .ref (e 5)]))] 0 0 (fun v w1 => v = some (.int cd) ∧ w1 = [(hm, .inr (6, [.int cd, .int (zb mb), .int (zb ak), .int (nI cnt), .int (nI k), .ref (e 0), .int (nI nl), .ref (e 1), .int (nI n), .ref (e 2), .int (nI m), .int (nI md), .ref (e 3), .ref (e 4), .int (zb fu), .ref (e 5)]))]) := by
  refine z_met (cc := cX6_thrown) (maxL := 1) (ret := (some .int)) (lv := [(0, .ref hm)]) (by decide) rfl (Nat.le_of_ble_eq_true rfl) rfl ?_
  intro X hXD hXg hXl hnm C E
  subst hXD hXg hXl
  have C : zC X cX6_thrown 1 RX6 wsX6_thrown ({ frames := 0, cells := 0, slots := 0, locals := 0 } : Room) := C
  have hiX6 : ∀ w ∈ u_ws RX6 TX6 16, w ∈ wsX6_thrown := by decide +kernel
  have hf36 : Cond.fieldLink RX6 36 "RdfsRulesModel" "code" "I" ∈ wsX6_thrown := by decide +kernel
  refine z_aload_n (q := 1) C 0 rfl rfl dX6_thrown_0 rfl ?_
  refine z_get (q := 4) (v := .int cd) C hiX6 0 0 rfl rfl (by decide) hf36 rfl dX6_thrown_1 rfl ?_
  refine z_iret C E (by omega) (by omega) dX6_thrown_4 ?_
  exact ⟨rfl, rfl⟩

set_option maxHeartbeats 4000000 in
set_option maxRecDepth 100000 in
theorem c_X6_refuses (l : Launch) (D : va_G) (g : ClassId × ClassId × ClassId) (hm : Nat) (e : Nat → Nat) (M : Nat → Nat → Int32) (cd : Int32) (mb ak : Bool) (cnt k nl n m md : Nat) (fu : Bool) (c : Nat) (hc : c < 3) : zM l yX6_refuses wsX6_refuses ({ frames := 0, cells := 0, slots := 0, locals := 0 } : Room) D g [.ref hm, .int (nI c)] [(hm, .inr (6, [.int cd, .int (zb mb), .int (zb ak), .int (nI cnt), .int (nI k), .ref (e 0), .int (nI nl), .ref (e 1), .int (nI n), .ref (e 2), .int (nI m), .int (nI md), .ref (e 3), .ref (e 4), .int (zb fu), .ref (e 5)]))] 0 0 (fun v w1 => v = some (.int (zb (decide (0 < c)))) ∧ w1 = [(hm, .inr (6, [.int (nI c), .int (zb mb), .int (zb ak), .int (nI cnt), .int (nI k), .ref (e 0), .int (nI nl), .ref (e 1), .int (nI n), .ref (e 2), .int (nI m), .int (nI md), .ref (e 3), .ref (e 4), .int (zb fu), .ref (e 5)]))]) := by
  refine z_met (cc := cX6_refuses) (maxL := 2) (ret := (some .boolean)) (lv := [(0, .ref hm), (1, .int (nI c))]) (by decide) rfl (Nat.le_of_ble_eq_true rfl) rfl ?_
  intro X hXD hXg hXl hnm C E
  subst hXD hXg hXl
  have C : zC X cX6_refuses 2 RX6 wsX6_refuses ({ frames := 0, cells := 0, slots := 0, locals := 0 } : Room) := C
  have hiX6 : ∀ w ∈ u_ws RX6 TX6 16, w ∈ wsX6_refuses := by decide +kernel
  have hf36 : Cond.fieldLink RX6 36 "RdfsRulesModel" "code" "I" ∈ wsX6_refuses := by decide +kernel
  refine z_aload_n (q := 1) C 0 rfl rfl dX6_refuses_0 rfl ?_
  refine z_iload_n (q := 2) C 1 rfl rfl dX6_refuses_1 rfl ?_
  refine z_put (q := 5) (ws' := [(hm, .inr (6, [.int (nI c), .int (zb mb), .int (zb ak), .int (nI cnt), .int (nI k), .ref (e 0), .int (nI nl), .ref (e 1), .int (nI n), .ref (e 2), .int (nI m), .int (nI md), .ref (e 3), .ref (e 4), .int (zb fu), .ref (e 5)]))]) C hiX6 tyX6_ok nmX6 0 0 rfl rfl (by decide) hf36 rfl rfl rfl (Nat.le_of_ble_eq_true rfl) dX6_refuses_2 rfl rfl ?_
  refine z_iload_n (q := 6) C 1 rfl rfl dX6_refuses_5 rfl ?_
  refine z_if_le_n (q := 9) (tgt := 13) C (by omega) dX6_refuses_6 (by decide) rfl (fun c6 => ?_) (fun c6 => ?_)
  · skip
    refine z_iconst (q := 14) C k_iconst_0 dX6_refuses_13 rfl ?_
    refine z_zret C E (by omega) (by omega) (by decide) dX6_refuses_14 ?_
    exact ⟨congrArg (fun z => some (Value.int z)) (zb_is0 (decide_eq_false (by omega))), rfl⟩
  · skip
    refine z_iconst (q := 10) C k_iconst_1 dX6_refuses_9 rfl ?_
    refine z_goto (tgt := 14) C dX6_refuses_10 (by decide) ?_
    refine z_zret C E (by omega) (by omega) (by decide) dX6_refuses_14 ?_
    exact ⟨congrArg (fun z => some (Value.int z)) (zb_is1 (decide_eq_true (by omega))), rfl⟩

set_option maxHeartbeats 4000000 in
set_option maxRecDepth 100000 in
theorem c_X6_isLiteral (l : Launch) (D : va_G) (g : ClassId × ClassId × ClassId) (hm : Nat) (e : Nat → Nat) (M : Nat → Nat → Int32) (cd : Int32) (mb ak : Bool) (cnt k nl n m md : Nat) (fu : Bool) (hnl : nl ≤ 40) (x : Int32) : zM l yX6_isLiteral wsX6_isLiteral ({ frames := 0, cells := 0, slots := 0, locals := 0 } : Room) D g [.ref hm, .int x] [(hm, .inr (6, [.int cd, .int (zb mb), .int (zb ak), .int (nI cnt), .int (nI k), .ref (e 0), .int (nI nl), .ref (e 1), .int (nI n), .ref (e 2), .int (nI m), .int (nI md), .ref (e 3), .ref (e 4), .int (zb fu), .ref (e 5)]))] 0 0 (fun v w1 => v = some (.int (zb (litB nl x))) ∧ w1 = [(hm, .inr (6, [.int cd, .int (zb mb), .int (zb ak), .int (nI cnt), .int (nI k), .ref (e 0), .int (nI nl), .ref (e 1), .int (nI n), .ref (e 2), .int (nI m), .int (nI md), .ref (e 3), .ref (e 4), .int (zb fu), .ref (e 5)]))]) := by
  refine z_met (cc := cX6_isLiteral) (maxL := 2) (ret := (some .boolean)) (lv := [(0, .ref hm), (1, .int x)]) (by decide) rfl (Nat.le_of_ble_eq_true rfl) rfl ?_
  intro X hXD hXg hXl hnm C E
  subst hXD hXg hXl
  have C : zC X cX6_isLiteral 2 RX6 wsX6_isLiteral ({ frames := 0, cells := 0, slots := 0, locals := 0 } : Room) := C
  have hiX6 : ∀ w ∈ u_ws RX6 TX6 16, w ∈ wsX6_isLiteral := by decide +kernel
  have hf39 : Cond.fieldLink RX6 39 "RdfsRulesModel" "literals" "I" ∈ wsX6_isLiteral := by decide +kernel
  refine z_iload_n (q := 1) C 1 rfl rfl dX6_isLiteral_0 rfl ?_
  refine z_sipush (q := 4) C k_sipush_300 dX6_isLiteral_1 rfl ?_
  refine z_icmp_lt_i (q := 7) (tgt := 23) C rfl ti_300 dX6_isLiteral_4 (by decide) rfl (fun c4 => ?_) (fun c4 => ?_)
  · skip
    refine z_iconst (q := 24) C k_iconst_0 dX6_isLiteral_23 rfl ?_
    refine z_zret C E (by omega) (by omega) (by decide) dX6_isLiteral_24 ?_
    exact ⟨congrArg (fun z => some (Value.int z)) (zb_is0 (decide_eq_false (by omega))), rfl⟩
  · skip
    refine z_iload_n (q := 8) C 1 rfl rfl dX6_isLiteral_7 rfl ?_
    refine z_sipush (q := 11) C k_sipush_300 dX6_isLiteral_8 rfl ?_
    refine z_aload_n (q := 12) C 0 rfl rfl dX6_isLiteral_11 rfl ?_
    refine z_get (q := 15) (v := .int (nI nl)) C hiX6 0 6 rfl rfl (by decide) hf39 rfl dX6_isLiteral_12 rfl ?_
    refine z_iadd (q := 16) C dX6_isLiteral_15 rfl ?_
    refine z_eqi (y := nI (300 + nl)) (nI_add 300 nl) ?_
    refine z_icmp_ge_i (q := 19) (tgt := 23) C rfl (nI_toInt (n := 300 + nl) (by omega)) dX6_isLiteral_16 (by decide) rfl (fun c16 => ?_) (fun c16 => ?_)
    · skip
      refine z_iconst (q := 24) C k_iconst_0 dX6_isLiteral_23 rfl ?_
      refine z_zret C E (by omega) (by omega) (by decide) dX6_isLiteral_24 ?_
      exact ⟨congrArg (fun z => some (Value.int z)) (zb_is0 (decide_eq_false (by omega))), rfl⟩
    · skip
      refine z_iconst (q := 20) C k_iconst_1 dX6_isLiteral_19 rfl ?_
      refine z_goto (tgt := 24) C dX6_isLiteral_20 (by decide) ?_
      refine z_zret C E (by omega) (by omega) (by decide) dX6_isLiteral_24 ?_
      exact ⟨congrArg (fun z => some (Value.int z)) (zb_is1 (decide_eq_true (by omega))), rfl⟩

set_option maxHeartbeats 4000000 in
set_option maxRecDepth 100000 in
theorem c_X6_isPlain (l : Launch) (D : va_G) (g : ClassId × ClassId × ClassId) (hm : Nat) (e : Nat → Nat) (M : Nat → Nat → Int32) (cd : Int32) (mb ak : Bool) (cnt k nl n m md : Nat) (fu : Bool) (x : Int32) : zM l yX6_isPlain wsX6_isPlain ({ frames := 0, cells := 0, slots := 0, locals := 0 } : Room) D g [.ref hm, .int x] [(hm, .inr (6, [.int cd, .int (zb mb), .int (zb ak), .int (nI cnt), .int (nI k), .ref (e 0), .int (nI nl), .ref (e 1), .int (nI n), .ref (e 2), .int (nI m), .int (nI md), .ref (e 3), .ref (e 4), .int (zb fu), .ref (e 5)]))] 0 0 (fun v w1 => v = some (.int (zb (plainB x))) ∧ w1 = [(hm, .inr (6, [.int cd, .int (zb mb), .int (zb ak), .int (nI cnt), .int (nI k), .ref (e 0), .int (nI nl), .ref (e 1), .int (nI n), .ref (e 2), .int (nI m), .int (nI md), .ref (e 3), .ref (e 4), .int (zb fu), .ref (e 5)]))]) := by
  refine z_met (cc := cX6_isPlain) (maxL := 2) (ret := (some .boolean)) (lv := [(0, .ref hm), (1, .int x)]) (by decide) rfl (Nat.le_of_ble_eq_true rfl) rfl ?_
  intro X hXD hXg hXl hnm C E
  subst hXD hXg hXl
  have C : zC X cX6_isPlain 2 RX6 wsX6_isPlain ({ frames := 0, cells := 0, slots := 0, locals := 0 } : Room) := C
  refine z_iload_n (q := 1) C 1 rfl rfl dX6_isPlain_0 rfl ?_
  refine z_if_lt_i (q := 4) (tgt := 10) C rfl dX6_isPlain_1 (by decide) rfl (fun c1 => ?_) (fun c1 => ?_)
  · skip
    refine z_iload_n (q := 11) C 1 rfl rfl dX6_isPlain_10 rfl ?_
    refine z_bipush (q := 13) C k_bipush_20 dX6_isPlain_11 rfl ?_
    refine z_icmp_lt_i (q := 16) (tgt := 22) C rfl ti_20 dX6_isPlain_13 (by decide) rfl (fun c13 => ?_) (fun c13 => ?_)
    · skip
      refine z_iload_n (q := 23) C 1 rfl rfl dX6_isPlain_22 rfl ?_
      refine z_bipush (q := 25) C k_bipush_100 dX6_isPlain_23 rfl ?_
      refine z_icmp_lt_i (q := 28) (tgt := 39) C rfl ti_100 dX6_isPlain_25 (by decide) rfl (fun c25 => ?_) (fun c25 => ?_)
      · skip
        refine z_iconst (q := 40) C k_iconst_0 dX6_isPlain_39 rfl ?_
        refine z_zret C E (by omega) (by omega) (by decide) dX6_isPlain_40 ?_
        exact ⟨congrArg (fun z => some (Value.int z)) (zb_is0 (decide_eq_false (by omega))), rfl⟩
      · skip
        refine z_iload_n (q := 29) C 1 rfl rfl dX6_isPlain_28 rfl ?_
        refine z_sipush (q := 32) C k_sipush_199 dX6_isPlain_29 rfl ?_
        refine z_icmp_gt_i (q := 35) (tgt := 39) C rfl ti_199 dX6_isPlain_32 (by decide) rfl (fun c32 => ?_) (fun c32 => ?_)
        · skip
          refine z_iconst (q := 40) C k_iconst_0 dX6_isPlain_39 rfl ?_
          refine z_zret C E (by omega) (by omega) (by decide) dX6_isPlain_40 ?_
          exact ⟨congrArg (fun z => some (Value.int z)) (zb_is0 (decide_eq_false (by omega))), rfl⟩
        · skip
          refine z_iconst (q := 36) C k_iconst_1 dX6_isPlain_35 rfl ?_
          refine z_goto (tgt := 40) C dX6_isPlain_36 (by decide) ?_
          refine z_zret C E (by omega) (by omega) (by decide) dX6_isPlain_40 ?_
          exact ⟨congrArg (fun z => some (Value.int z)) (zb_is1 (decide_eq_true (by omega))), rfl⟩
    · skip
      refine z_iload_n (q := 17) C 1 rfl rfl dX6_isPlain_16 rfl ?_
      refine z_bipush (q := 19) C k_bipush_28 dX6_isPlain_17 rfl ?_
      refine z_icmp_le_i (q := 22) (tgt := 35) C rfl ti_28 dX6_isPlain_19 (by decide) rfl (fun c19 => ?_) (fun c19 => ?_)
      · skip
        refine z_iconst (q := 36) C k_iconst_1 dX6_isPlain_35 rfl ?_
        refine z_goto (tgt := 40) C dX6_isPlain_36 (by decide) ?_
        refine z_zret C E (by omega) (by omega) (by decide) dX6_isPlain_40 ?_
        exact ⟨congrArg (fun z => some (Value.int z)) (zb_is1 (decide_eq_true (by omega))), rfl⟩
      · skip
        refine z_iload_n (q := 23) C 1 rfl rfl dX6_isPlain_22 rfl ?_
        refine z_bipush (q := 25) C k_bipush_100 dX6_isPlain_23 rfl ?_
        refine z_icmp_lt_i (q := 28) (tgt := 39) C rfl ti_100 dX6_isPlain_25 (by decide) rfl (fun c25 => ?_) (fun c25 => ?_)
        · skip
          refine z_iconst (q := 40) C k_iconst_0 dX6_isPlain_39 rfl ?_
          refine z_zret C E (by omega) (by omega) (by decide) dX6_isPlain_40 ?_
          exact ⟨congrArg (fun z => some (Value.int z)) (zb_is0 (decide_eq_false (by omega))), rfl⟩
        · skip
          refine z_iload_n (q := 29) C 1 rfl rfl dX6_isPlain_28 rfl ?_
          refine z_sipush (q := 32) C k_sipush_199 dX6_isPlain_29 rfl ?_
          refine z_icmp_gt_i (q := 35) (tgt := 39) C rfl ti_199 dX6_isPlain_32 (by decide) rfl (fun c32 => ?_) (fun c32 => ?_)
          · skip
            refine z_iconst (q := 40) C k_iconst_0 dX6_isPlain_39 rfl ?_
            refine z_zret C E (by omega) (by omega) (by decide) dX6_isPlain_40 ?_
            exact ⟨congrArg (fun z => some (Value.int z)) (zb_is0 (decide_eq_false (by omega))), rfl⟩
          · skip
            refine z_iconst (q := 36) C k_iconst_1 dX6_isPlain_35 rfl ?_
            refine z_goto (tgt := 40) C dX6_isPlain_36 (by decide) ?_
            refine z_zret C E (by omega) (by omega) (by decide) dX6_isPlain_40 ?_
            exact ⟨congrArg (fun z => some (Value.int z)) (zb_is1 (decide_eq_true (by omega))), rfl⟩
  · skip
    refine z_iload_n (q := 5) C 1 rfl rfl dX6_isPlain_4 rfl ?_
    refine z_bipush (q := 7) C k_bipush_11 dX6_isPlain_5 rfl ?_
    refine z_icmp_le_i (q := 10) (tgt := 35) C rfl ti_11 dX6_isPlain_7 (by decide) rfl (fun c7 => ?_) (fun c7 => ?_)
    · skip
      refine z_iconst (q := 36) C k_iconst_1 dX6_isPlain_35 rfl ?_
      refine z_goto (tgt := 40) C dX6_isPlain_36 (by decide) ?_
      refine z_zret C E (by omega) (by omega) (by decide) dX6_isPlain_40 ?_
      exact ⟨congrArg (fun z => some (Value.int z)) (zb_is1 (decide_eq_true (by omega))), rfl⟩
    · skip
      refine z_iload_n (q := 11) C 1 rfl rfl dX6_isPlain_10 rfl ?_
      refine z_bipush (q := 13) C k_bipush_20 dX6_isPlain_11 rfl ?_
      refine z_icmp_lt_i (q := 16) (tgt := 22) C rfl ti_20 dX6_isPlain_13 (by decide) rfl (fun c13 => ?_) (fun c13 => ?_)
      · skip
        refine z_iload_n (q := 23) C 1 rfl rfl dX6_isPlain_22 rfl ?_
        refine z_bipush (q := 25) C k_bipush_100 dX6_isPlain_23 rfl ?_
        refine z_icmp_lt_i (q := 28) (tgt := 39) C rfl ti_100 dX6_isPlain_25 (by decide) rfl (fun c25 => ?_) (fun c25 => ?_)
        · skip
          refine z_iconst (q := 40) C k_iconst_0 dX6_isPlain_39 rfl ?_
          refine z_zret C E (by omega) (by omega) (by decide) dX6_isPlain_40 ?_
          exact ⟨congrArg (fun z => some (Value.int z)) (zb_is0 (decide_eq_false (by omega))), rfl⟩
        · skip
          refine z_iload_n (q := 29) C 1 rfl rfl dX6_isPlain_28 rfl ?_
          refine z_sipush (q := 32) C k_sipush_199 dX6_isPlain_29 rfl ?_
          refine z_icmp_gt_i (q := 35) (tgt := 39) C rfl ti_199 dX6_isPlain_32 (by decide) rfl (fun c32 => ?_) (fun c32 => ?_)
          · skip
            refine z_iconst (q := 40) C k_iconst_0 dX6_isPlain_39 rfl ?_
            refine z_zret C E (by omega) (by omega) (by decide) dX6_isPlain_40 ?_
            exact ⟨congrArg (fun z => some (Value.int z)) (zb_is0 (decide_eq_false (by omega))), rfl⟩
          · skip
            refine z_iconst (q := 36) C k_iconst_1 dX6_isPlain_35 rfl ?_
            refine z_goto (tgt := 40) C dX6_isPlain_36 (by decide) ?_
            refine z_zret C E (by omega) (by omega) (by decide) dX6_isPlain_40 ?_
            exact ⟨congrArg (fun z => some (Value.int z)) (zb_is1 (decide_eq_true (by omega))), rfl⟩
      · skip
        refine z_iload_n (q := 17) C 1 rfl rfl dX6_isPlain_16 rfl ?_
        refine z_bipush (q := 19) C k_bipush_28 dX6_isPlain_17 rfl ?_
        refine z_icmp_le_i (q := 22) (tgt := 35) C rfl ti_28 dX6_isPlain_19 (by decide) rfl (fun c19 => ?_) (fun c19 => ?_)
        · skip
          refine z_iconst (q := 36) C k_iconst_1 dX6_isPlain_35 rfl ?_
          refine z_goto (tgt := 40) C dX6_isPlain_36 (by decide) ?_
          refine z_zret C E (by omega) (by omega) (by decide) dX6_isPlain_40 ?_
          exact ⟨congrArg (fun z => some (Value.int z)) (zb_is1 (decide_eq_true (by omega))), rfl⟩
        · skip
          refine z_iload_n (q := 23) C 1 rfl rfl dX6_isPlain_22 rfl ?_
          refine z_bipush (q := 25) C k_bipush_100 dX6_isPlain_23 rfl ?_
          refine z_icmp_lt_i (q := 28) (tgt := 39) C rfl ti_100 dX6_isPlain_25 (by decide) rfl (fun c25 => ?_) (fun c25 => ?_)
          · skip
            refine z_iconst (q := 40) C k_iconst_0 dX6_isPlain_39 rfl ?_
            refine z_zret C E (by omega) (by omega) (by decide) dX6_isPlain_40 ?_
            exact ⟨congrArg (fun z => some (Value.int z)) (zb_is0 (decide_eq_false (by omega))), rfl⟩
          · skip
            refine z_iload_n (q := 29) C 1 rfl rfl dX6_isPlain_28 rfl ?_
            refine z_sipush (q := 32) C k_sipush_199 dX6_isPlain_29 rfl ?_
            refine z_icmp_gt_i (q := 35) (tgt := 39) C rfl ti_199 dX6_isPlain_32 (by decide) rfl (fun c32 => ?_) (fun c32 => ?_)
            · skip
              refine z_iconst (q := 40) C k_iconst_0 dX6_isPlain_39 rfl ?_
              refine z_zret C E (by omega) (by omega) (by decide) dX6_isPlain_40 ?_
              exact ⟨congrArg (fun z => some (Value.int z)) (zb_is0 (decide_eq_false (by omega))), rfl⟩
            · skip
              refine z_iconst (q := 36) C k_iconst_1 dX6_isPlain_35 rfl ?_
              refine z_goto (tgt := 40) C dX6_isPlain_36 (by decide) ?_
              refine z_zret C E (by omega) (by omega) (by decide) dX6_isPlain_40 ?_
              exact ⟨congrArg (fun z => some (Value.int z)) (zb_is1 (decide_eq_true (by omega))), rfl⟩

set_option maxHeartbeats 4000000 in
set_option maxRecDepth 100000 in
theorem c_X6_isFact (l : Launch) (D : va_G) (g : ClassId × ClassId × ClassId) (hm : Nat) (e : Nat → Nat) (M : Nat → Nat → Int32) (cd : Int32) (mb ak : Bool) (cnt k nl n m md : Nat) (fu : Bool) (hnl : nl ≤ 40) (s p o : Int32) : zM l yX6_isFact wsX6_isFact ({ frames := 1, cells := 0, slots := 0, locals := 21 } : Room) D g [.ref hm, .int s, .int p, .int o] [(hm, .inr (6, [.int cd, .int (zb mb), .int (zb ak), .int (nI cnt), .int (nI k), .ref (e 0), .int (nI nl), .ref (e 1), .int (nI n), .ref (e 2), .int (nI m), .int (nI md), .ref (e 3), .ref (e 4), .int (zb fu), .ref (e 5)]))] 0 0 (fun v w1 => v = some (.int (zb (factB nl s p o))) ∧ w1 = [(hm, .inr (6, [.int cd, .int (zb mb), .int (zb ak), .int (nI cnt), .int (nI k), .ref (e 0), .int (nI nl), .ref (e 1), .int (nI n), .ref (e 2), .int (nI m), .int (nI md), .ref (e 3), .ref (e 4), .int (zb fu), .ref (e 5)]))]) := by
  refine z_met (cc := cX6_isFact) (maxL := 4) (ret := (some .boolean)) (lv := [(0, .ref hm), (1, .int s), (2, .int p), (3, .int o)]) (by decide) rfl (Nat.le_of_ble_eq_true rfl) rfl ?_
  intro X hXD hXg hXl hnm C E
  subst hXD hXg hXl
  have C : zC X cX6_isFact 4 RX6 wsX6_isFact ({ frames := 1, cells := 0, slots := 0, locals := 21 } : Room) := C
  refine z_aload_n (q := 1) C 0 rfl rfl dX6_isFact_0 rfl ?_
  refine z_iload_n (q := 2) C 1 rfl rfl dX6_isFact_1 rfl ?_
  refine z_callV (q := 5) (n := 1) (As := [.int s]) (rest := []) (wr := []) C (c_X6_isPlain X.l X.D X.2.1 hm e M cd mb ak cnt k nl n m md fu s) gX6_isFact_X6_isPlain rfl rfl rfl (by decide +kernel) (by decide) ⟨by first | decide | omega, by first | decide | omega⟩ 0 6 rfl rfl [0] [] rfl rfl (by decide) (by decide) (by decide) rfl rfl (Nat.le_of_ble_eq_true rfl) dX6_isFact_2 rfl (fun v w1 hp => ?_)
  obtain ⟨rfl, rfl⟩ := hp
  show zW X 4 [(hm, .inr (6, [.int cd, .int (zb mb), .int (zb ak), .int (nI cnt), .int (nI k), .ref (e 0), .int (nI nl), .ref (e 1), .int (nI n), .ref (e 2), .int (nI m), .int (nI md), .ref (e 3), .ref (e 4), .int (zb fu), .ref (e 5)]))] _ _ 5 _ [.int (zb (plainB s))]
  refine z_if_eq_b (q := 8) (tgt := 36) C dX6_isFact_5 (by decide) rfl (fun c5 => ?_) (fun c5 => ?_)
  · skip
    refine z_iconst (q := 37) C k_iconst_0 dX6_isFact_36 rfl ?_
    refine z_zret C E (by omega) (by omega) (by decide) dX6_isFact_37 ?_
    refine ⟨congrArg (fun z => some (Value.int z)) (zb_is0 ?_), rfl⟩
    unfold factB
    simp [*]
  · skip
    refine z_aload_n (q := 9) C 0 rfl rfl dX6_isFact_8 rfl ?_
    refine z_iload_n (q := 10) C 2 rfl rfl dX6_isFact_9 rfl ?_
    refine z_callV (q := 13) (n := 1) (As := [.int p]) (rest := []) (wr := []) C (c_X6_isPlain X.l X.D X.2.1 hm e M cd mb ak cnt k nl n m md fu p) gX6_isFact_X6_isPlain rfl rfl rfl (by decide +kernel) (by decide) ⟨by first | decide | omega, by first | decide | omega⟩ 0 6 rfl rfl [0] [] rfl rfl (by decide) (by decide) (by decide) rfl rfl (Nat.le_of_ble_eq_true rfl) dX6_isFact_10 rfl (fun v w1 hp => ?_)
    obtain ⟨rfl, rfl⟩ := hp
    show zW X 4 [(hm, .inr (6, [.int cd, .int (zb mb), .int (zb ak), .int (nI cnt), .int (nI k), .ref (e 0), .int (nI nl), .ref (e 1), .int (nI n), .ref (e 2), .int (nI m), .int (nI md), .ref (e 3), .ref (e 4), .int (zb fu), .ref (e 5)]))] _ _ 13 _ [.int (zb (plainB p))]
    refine z_if_eq_b (q := 16) (tgt := 36) C dX6_isFact_13 (by decide) rfl (fun c13 => ?_) (fun c13 => ?_)
    · skip
      refine z_iconst (q := 37) C k_iconst_0 dX6_isFact_36 rfl ?_
      refine z_zret C E (by omega) (by omega) (by decide) dX6_isFact_37 ?_
      refine ⟨congrArg (fun z => some (Value.int z)) (zb_is0 ?_), rfl⟩
      unfold factB
      simp [*]
    · skip
      refine z_aload_n (q := 17) C 0 rfl rfl dX6_isFact_16 rfl ?_
      refine z_iload_n (q := 18) C 3 rfl rfl dX6_isFact_17 rfl ?_
      refine z_callV (q := 21) (n := 1) (As := [.int o]) (rest := []) (wr := []) C (c_X6_isPlain X.l X.D X.2.1 hm e M cd mb ak cnt k nl n m md fu o) gX6_isFact_X6_isPlain rfl rfl rfl (by decide +kernel) (by decide) ⟨by first | decide | omega, by first | decide | omega⟩ 0 6 rfl rfl [0] [] rfl rfl (by decide) (by decide) (by decide) rfl rfl (Nat.le_of_ble_eq_true rfl) dX6_isFact_18 rfl (fun v w1 hp => ?_)
      obtain ⟨rfl, rfl⟩ := hp
      show zW X 4 [(hm, .inr (6, [.int cd, .int (zb mb), .int (zb ak), .int (nI cnt), .int (nI k), .ref (e 0), .int (nI nl), .ref (e 1), .int (nI n), .ref (e 2), .int (nI m), .int (nI md), .ref (e 3), .ref (e 4), .int (zb fu), .ref (e 5)]))] _ _ 21 _ [.int (zb (plainB o))]
      refine z_if_ne_b (q := 24) (tgt := 32) C dX6_isFact_21 (by decide) rfl (fun c21 => ?_) (fun c21 => ?_)
      · skip
        refine z_iconst (q := 33) C k_iconst_1 dX6_isFact_32 rfl ?_
        refine z_goto (tgt := 37) C dX6_isFact_33 (by decide) ?_
        refine z_zret C E (by omega) (by omega) (by decide) dX6_isFact_37 ?_
        refine ⟨congrArg (fun z => some (Value.int z)) (zb_is1 ?_), rfl⟩
        unfold factB
        simp [*]
      · skip
        refine z_aload_n (q := 25) C 0 rfl rfl dX6_isFact_24 rfl ?_
        refine z_iload_n (q := 26) C 3 rfl rfl dX6_isFact_25 rfl ?_
        refine z_callV (q := 29) (n := 1) (As := [.int o]) (rest := []) (wr := []) C (c_X6_isLiteral X.l X.D X.2.1 hm e M cd mb ak cnt k nl n m md fu hnl o) gX6_isFact_X6_isLiteral rfl rfl rfl (by decide +kernel) (by decide) ⟨by first | decide | omega, by first | decide | omega⟩ 0 6 rfl rfl [0] [] rfl rfl (by decide) (by decide) (by decide) rfl rfl (Nat.le_of_ble_eq_true rfl) dX6_isFact_26 rfl (fun v w1 hp => ?_)
        obtain ⟨rfl, rfl⟩ := hp
        show zW X 4 [(hm, .inr (6, [.int cd, .int (zb mb), .int (zb ak), .int (nI cnt), .int (nI k), .ref (e 0), .int (nI nl), .ref (e 1), .int (nI n), .ref (e 2), .int (nI m), .int (nI md), .ref (e 3), .ref (e 4), .int (zb fu), .ref (e 5)]))] _ _ 29 _ [.int (zb (litB nl o))]
        refine z_if_eq_b (q := 32) (tgt := 36) C dX6_isFact_29 (by decide) rfl (fun c29 => ?_) (fun c29 => ?_)
        · skip
          refine z_iconst (q := 37) C k_iconst_0 dX6_isFact_36 rfl ?_
          refine z_zret C E (by omega) (by omega) (by decide) dX6_isFact_37 ?_
          refine ⟨congrArg (fun z => some (Value.int z)) (zb_is0 ?_), rfl⟩
          unfold factB
          simp [*]
        · skip
          refine z_iconst (q := 33) C k_iconst_1 dX6_isFact_32 rfl ?_
          refine z_goto (tgt := 37) C dX6_isFact_33 (by decide) ?_
          refine z_zret C E (by omega) (by omega) (by decide) dX6_isFact_37 ?_
          refine ⟨congrArg (fun z => some (Value.int z)) (zb_is1 ?_), rfl⟩
          unfold factB
          simp [*]

set_option maxHeartbeats 4000000 in
set_option maxRecDepth 100000 in
theorem c_X6_literal (l : Launch) (D : va_G) (g : ClassId × ClassId × ClassId) (hm : Nat) (e : Nat → Nat) (M : Nat → Nat → Int32) (cd : Int32) (mb ak : Bool) (cnt k nl n m md : Nat) (fu : Bool) (hnl : nl ≤ 40) (x : Int32) : zM l yX6_literal wsX6_literal ({ frames := 1, cells := 0, slots := 0, locals := 21 } : Room) D g [.ref hm, .int x] [(hm, .inr (6, [.int cd, .int (zb mb), .int (zb ak), .int (nI cnt), .int (nI k), .ref (e 0), .int (nI nl), .ref (e 1), .int (nI n), .ref (e 2), .int (nI m), .int (nI md), .ref (e 3), .ref (e 4), .int (zb fu), .ref (e 5)])), (e 0, .inl (g.1, 240, .inl (M 0))), (e 1, .inl (g.1, 40, .inl (M 1))), (e 2, .inl (g.1, 4200, .inl (M 2))), (e 3, .inl (g.1, 4207, .inl (M 3))), (e 4, .inl (g.1, 2048, .inl (M 4))), (e 5, .inl (g.1, 600, .inl (M 5)))] 0 0 (fun v w1 => (∃ c, 0 < c ∧ cdLit nl x = c ∧ v = some (.int (nI 0)) ∧ w1 = [(hm, .inr (6, [.int (nI c), .int (zb mb), .int (zb ak), .int (nI cnt), .int (nI k), .ref (e 0), .int (nI nl), .ref (e 1), .int (nI n), .ref (e 2), .int (nI m), .int (nI md), .ref (e 3), .ref (e 4), .int (zb fu), .ref (e 5)])), (e 0, .inl (g.1, 240, .inl (M 0))), (e 1, .inl (g.1, 40, .inl (M 1))), (e 2, .inl (g.1, 4200, .inl (M 2))), (e 3, .inl (g.1, 4207, .inl (M 3))), (e 4, .inl (g.1, 2048, .inl (M 4))), (e 5, .inl (g.1, 600, .inl (M 5)))]) ∨ (cdLit nl x = 0 ∧ v = some (.int (nI (300 + nl))) ∧ w1 = [(hm, .inr (6, [.int (nI 0), .int (zb mb), .int (zb ak), .int (nI cnt), .int (nI k), .ref (e 0), .int (nI (nl + 1)), .ref (e 1), .int (nI n), .ref (e 2), .int (nI m), .int (nI md), .ref (e 3), .ref (e 4), .int (zb fu), .ref (e 5)])), (e 0, .inl (g.1, 240, .inl (M 0))), (e 1, .inl (g.1, 40, .inl (upd (M 1) nl x))), (e 2, .inl (g.1, 4200, .inl (M 2))), (e 3, .inl (g.1, 4207, .inl (M 3))), (e 4, .inl (g.1, 2048, .inl (M 4))), (e 5, .inl (g.1, 600, .inl (M 5)))])) := by
  refine z_met (cc := cX6_literal) (maxL := 2) (ret := (some .int)) (lv := [(0, .ref hm), (1, .int x)]) (by decide) rfl (Nat.le_of_ble_eq_true rfl) rfl ?_
  intro X hXD hXg hXl hnm C E
  subst hXD hXg hXl
  have C : zC X cX6_literal 2 RX6 wsX6_literal ({ frames := 1, cells := 0, slots := 0, locals := 21 } : Room) := C
  have hiX6 : ∀ w ∈ u_ws RX6 TX6 16, w ∈ wsX6_literal := by decide +kernel
  have hf17 : Cond.fieldLink RX6 17 "RdfsRulesModel" "types" "[I" ∈ wsX6_literal := by decide +kernel
  have hf39 : Cond.fieldLink RX6 39 "RdfsRulesModel" "literals" "I" ∈ wsX6_literal := by decide +kernel
  refine z_aload_n (q := 1) C 0 rfl rfl dX6_literal_0 rfl ?_
  refine z_aload_n (q := 2) C 0 rfl rfl dX6_literal_1 rfl ?_
  refine z_iload_n (q := 3) C 1 rfl rfl dX6_literal_2 rfl ?_
  refine z_callV (q := 6) (n := 1) (As := [.int x]) (rest := [.ref hm]) (wr := [(e 0, .inl (X.cI, 240, .inl (M 0))), (e 1, .inl (X.cI, 40, .inl (M 1))), (e 2, .inl (X.cI, 4200, .inl (M 2))), (e 3, .inl (X.cI, 4207, .inl (M 3))), (e 4, .inl (X.cI, 2048, .inl (M 4))), (e 5, .inl (X.cI, 600, .inl (M 5)))]) C (c_X6_isPlain X.l X.D X.2.1 hm e M cd mb ak cnt k nl n m md fu x) gX6_literal_X6_isPlain rfl rfl rfl (by decide +kernel) (by decide) ⟨by first | decide | omega, by first | decide | omega⟩ 0 6 rfl rfl [0] [1, 2, 3, 4, 5, 6] rfl rfl (by decide) (by decide) (by decide) rfl rfl (Nat.le_of_ble_eq_true rfl) dX6_literal_3 rfl (fun v w1 hp => ?_)
  obtain ⟨rfl, rfl⟩ := hp
  show zW X 2 [(e 0, .inl (X.cI, 240, .inl (M 0))), (e 1, .inl (X.cI, 40, .inl (M 1))), (e 2, .inl (X.cI, 4200, .inl (M 2))), (e 3, .inl (X.cI, 4207, .inl (M 3))), (e 4, .inl (X.cI, 2048, .inl (M 4))), (e 5, .inl (X.cI, 600, .inl (M 5))), (hm, .inr (6, [.int cd, .int (zb mb), .int (zb ak), .int (nI cnt), .int (nI k), .ref (e 0), .int (nI nl), .ref (e 1), .int (nI n), .ref (e 2), .int (nI m), .int (nI md), .ref (e 3), .ref (e 4), .int (zb fu), .ref (e 5)]))] _ _ 6 _ [.int (zb (plainB x)), .ref hm]
  refine z_ws (ws' := [(hm, .inr (6, [.int cd, .int (zb mb), .int (zb ak), .int (nI cnt), .int (nI k), .ref (e 0), .int (nI nl), .ref (e 1), .int (nI n), .ref (e 2), .int (nI m), .int (nI md), .ref (e 3), .ref (e 4), .int (zb fu), .ref (e 5)])), (e 0, .inl (X.cI, 240, .inl (M 0))), (e 1, .inl (X.cI, 40, .inl (M 1))), (e 2, .inl (X.cI, 4200, .inl (M 2))), (e 3, .inl (X.cI, 4207, .inl (M 3))), (e 4, .inl (X.cI, 2048, .inl (M 4))), (e 5, .inl (X.cI, 600, .inl (M 5)))]) [6, 0, 1, 2, 3, 4, 5] (by decide) rfl ?_
  refine z_if_ne_b (q := 9) (tgt := 13) C dX6_literal_6 (by decide) rfl (fun c6 => ?_) (fun c6 => ?_)
  · skip
    refine z_aload_n (q := 14) C 0 rfl rfl dX6_literal_13 rfl ?_
    refine z_get (q := 17) (v := .int (nI nl)) C hiX6 0 6 rfl rfl (by decide) hf39 rfl dX6_literal_14 rfl ?_
    refine z_bipush (q := 19) C k_bipush_40 dX6_literal_17 rfl ?_
    refine z_icmp_ne_n (q := 22) (tgt := 26) C (by omega) (by omega) dX6_literal_19 (by decide) rfl (fun c19 => ?_) (fun c19 => ?_)
    · skip
      refine z_iconst (q := 27) C k_iconst_0 dX6_literal_26 rfl ?_
      refine z_callV (q := 30) (n := 1) (As := [.int (nI 0)]) (rest := []) (wr := [(e 0, .inl (X.cI, 240, .inl (M 0))), (e 1, .inl (X.cI, 40, .inl (M 1))), (e 2, .inl (X.cI, 4200, .inl (M 2))), (e 3, .inl (X.cI, 4207, .inl (M 3))), (e 4, .inl (X.cI, 2048, .inl (M 4))), (e 5, .inl (X.cI, 600, .inl (M 5)))]) C (c_X6_refuses X.l X.D X.2.1 hm e M cd mb ak cnt k nl n m md fu 0 (by omega)) gX6_literal_X6_refuses rfl rfl rfl (by decide +kernel) (by decide) ⟨by first | decide | omega, by first | decide | omega⟩ 0 6 rfl rfl [0] [1, 2, 3, 4, 5, 6] rfl rfl (by decide) (by decide) (by decide) rfl rfl (Nat.le_of_ble_eq_true rfl) dX6_literal_27 rfl (fun v w1 hp => ?_)
      obtain ⟨rfl, rfl⟩ := hp
      show zW X 2 [(e 0, .inl (X.cI, 240, .inl (M 0))), (e 1, .inl (X.cI, 40, .inl (M 1))), (e 2, .inl (X.cI, 4200, .inl (M 2))), (e 3, .inl (X.cI, 4207, .inl (M 3))), (e 4, .inl (X.cI, 2048, .inl (M 4))), (e 5, .inl (X.cI, 600, .inl (M 5))), (hm, .inr (6, [.int (nI 0), .int (zb mb), .int (zb ak), .int (nI cnt), .int (nI k), .ref (e 0), .int (nI nl), .ref (e 1), .int (nI n), .ref (e 2), .int (nI m), .int (nI md), .ref (e 3), .ref (e 4), .int (zb fu), .ref (e 5)]))] _ _ 30 _ [.int (zb (decide (0 < 0)))]
      refine z_ws (ws' := [(hm, .inr (6, [.int (nI 0), .int (zb mb), .int (zb ak), .int (nI cnt), .int (nI k), .ref (e 0), .int (nI nl), .ref (e 1), .int (nI n), .ref (e 2), .int (nI m), .int (nI md), .ref (e 3), .ref (e 4), .int (zb fu), .ref (e 5)])), (e 0, .inl (X.cI, 240, .inl (M 0))), (e 1, .inl (X.cI, 40, .inl (M 1))), (e 2, .inl (X.cI, 4200, .inl (M 2))), (e 3, .inl (X.cI, 4207, .inl (M 3))), (e 4, .inl (X.cI, 2048, .inl (M 4))), (e 5, .inl (X.cI, 600, .inl (M 5)))]) [6, 0, 1, 2, 3, 4, 5] (by decide) rfl ?_
      refine z_if_eq_b (q := 33) (tgt := 35) C dX6_literal_30 (by decide) rfl (fun c30 => ?_) (fun c30 => ?_)
      · skip
        refine z_aload_n (q := 36) C 0 rfl rfl dX6_literal_35 rfl ?_
        refine z_get (q := 39) (v := .ref (e 1)) C hiX6 0 7 rfl rfl (by decide) hf17 rfl dX6_literal_36 rfl ?_
        refine z_aload_n (q := 40) C 0 rfl rfl dX6_literal_39 rfl ?_
        refine z_get (q := 43) (v := .int (nI nl)) C hiX6 0 6 rfl rfl (by decide) hf39 rfl dX6_literal_40 rfl ?_
        refine z_iload_n (q := 44) C 1 rfl rfl dX6_literal_43 rfl ?_
        refine z_iast (q := 45) (ws' := [(hm, .inr (6, [.int (nI 0), .int (zb mb), .int (zb ak), .int (nI cnt), .int (nI k), .ref (e 0), .int (nI nl), .ref (e 1), .int (nI n), .ref (e 2), .int (nI m), .int (nI md), .ref (e 3), .ref (e 4), .int (zb fu), .ref (e 5)])), (e 0, .inl (X.cI, 240, .inl (M 0))), (e 1, .inl (X.cI, 40, .inl (upd (M 1) nl x))), (e 2, .inl (X.cI, 4200, .inl (M 2))), (e 3, .inl (X.cI, 4207, .inl (M 3))), (e 4, .inl (X.cI, 2048, .inl (M 4))), (e 5, .inl (X.cI, 600, .inl (M 5)))]) C 2 rfl (i := nl) (by omega) (by decide) dX6_literal_44 rfl rfl ?_
        refine z_aload_n (q := 46) C 0 rfl rfl dX6_literal_45 rfl ?_
        refine z_dup (q := 47) C rfl dX6_literal_46 rfl ?_
        refine z_get (q := 50) (v := .int (nI nl)) C hiX6 0 6 rfl rfl (by decide) hf39 rfl dX6_literal_47 rfl ?_
        refine z_iconst (q := 51) C k_iconst_1 dX6_literal_50 rfl ?_
        refine z_iadd (q := 52) C dX6_literal_51 rfl ?_
        refine z_eqi (y := nI (nl + 1)) (nI_add nl 1) ?_
        refine z_put (q := 55) (ws' := [(hm, .inr (6, [.int (nI 0), .int (zb mb), .int (zb ak), .int (nI cnt), .int (nI k), .ref (e 0), .int (nI (nl + 1)), .ref (e 1), .int (nI n), .ref (e 2), .int (nI m), .int (nI md), .ref (e 3), .ref (e 4), .int (zb fu), .ref (e 5)])), (e 0, .inl (X.cI, 240, .inl (M 0))), (e 1, .inl (X.cI, 40, .inl (upd (M 1) nl x))), (e 2, .inl (X.cI, 4200, .inl (M 2))), (e 3, .inl (X.cI, 4207, .inl (M 3))), (e 4, .inl (X.cI, 2048, .inl (M 4))), (e 5, .inl (X.cI, 600, .inl (M 5)))]) C hiX6 tyX6_ok nmX6 0 6 rfl rfl (by decide) hf39 rfl rfl rfl (Nat.le_of_ble_eq_true rfl) dX6_literal_52 rfl rfl ?_
        refine z_sipush (q := 58) C k_sipush_300 dX6_literal_55 rfl ?_
        refine z_aload_n (q := 59) C 0 rfl rfl dX6_literal_58 rfl ?_
        refine z_get (q := 62) (v := .int (nI (nl + 1))) C hiX6 0 6 rfl rfl (by decide) hf39 rfl dX6_literal_59 rfl ?_
        refine z_iadd (q := 63) C dX6_literal_62 rfl ?_
        refine z_eqi (y := nI (300 + (nl + 1))) (nI_add 300 (nl + 1)) ?_
        refine z_iconst (q := 64) C k_iconst_1 dX6_literal_63 rfl ?_
        refine z_isub (q := 65) C dX6_literal_64 rfl ?_
        refine z_eqi (y := nI ((300 + (nl + 1)) - 1)) (pk_sub (a := 300 + (nl + 1)) (b := 1) (by omega)) ?_
        refine z_iret C E (by omega) (by omega) dX6_literal_65 ?_
        exact Or.inr ⟨by unfold cdLit; rw [if_neg (by rw [c6]; decide), if_neg (by omega)], by rw [show 300 + (nl + 1) - 1 = 300 + nl by omega], rfl⟩
      · skip
        exact absurd c30 (by decide)
    · skip
      refine z_iconst (q := 23) C k_iconst_2 dX6_literal_22 rfl ?_
      refine z_goto (tgt := 27) C dX6_literal_23 (by decide) ?_
      refine z_callV (q := 30) (n := 1) (As := [.int (nI 2)]) (rest := []) (wr := [(e 0, .inl (X.cI, 240, .inl (M 0))), (e 1, .inl (X.cI, 40, .inl (M 1))), (e 2, .inl (X.cI, 4200, .inl (M 2))), (e 3, .inl (X.cI, 4207, .inl (M 3))), (e 4, .inl (X.cI, 2048, .inl (M 4))), (e 5, .inl (X.cI, 600, .inl (M 5)))]) C (c_X6_refuses X.l X.D X.2.1 hm e M cd mb ak cnt k nl n m md fu 2 (by omega)) gX6_literal_X6_refuses rfl rfl rfl (by decide +kernel) (by decide) ⟨by first | decide | omega, by first | decide | omega⟩ 0 6 rfl rfl [0] [1, 2, 3, 4, 5, 6] rfl rfl (by decide) (by decide) (by decide) rfl rfl (Nat.le_of_ble_eq_true rfl) dX6_literal_27 rfl (fun v w1 hp => ?_)
      obtain ⟨rfl, rfl⟩ := hp
      show zW X 2 [(e 0, .inl (X.cI, 240, .inl (M 0))), (e 1, .inl (X.cI, 40, .inl (M 1))), (e 2, .inl (X.cI, 4200, .inl (M 2))), (e 3, .inl (X.cI, 4207, .inl (M 3))), (e 4, .inl (X.cI, 2048, .inl (M 4))), (e 5, .inl (X.cI, 600, .inl (M 5))), (hm, .inr (6, [.int (nI 2), .int (zb mb), .int (zb ak), .int (nI cnt), .int (nI k), .ref (e 0), .int (nI nl), .ref (e 1), .int (nI n), .ref (e 2), .int (nI m), .int (nI md), .ref (e 3), .ref (e 4), .int (zb fu), .ref (e 5)]))] _ _ 30 _ [.int (zb (decide (0 < 2)))]
      refine z_ws (ws' := [(hm, .inr (6, [.int (nI 2), .int (zb mb), .int (zb ak), .int (nI cnt), .int (nI k), .ref (e 0), .int (nI nl), .ref (e 1), .int (nI n), .ref (e 2), .int (nI m), .int (nI md), .ref (e 3), .ref (e 4), .int (zb fu), .ref (e 5)])), (e 0, .inl (X.cI, 240, .inl (M 0))), (e 1, .inl (X.cI, 40, .inl (M 1))), (e 2, .inl (X.cI, 4200, .inl (M 2))), (e 3, .inl (X.cI, 4207, .inl (M 3))), (e 4, .inl (X.cI, 2048, .inl (M 4))), (e 5, .inl (X.cI, 600, .inl (M 5)))]) [6, 0, 1, 2, 3, 4, 5] (by decide) rfl ?_
      refine z_if_eq_b (q := 33) (tgt := 35) C dX6_literal_30 (by decide) rfl (fun c30 => ?_) (fun c30 => ?_)
      · skip
        exact absurd c30 (by decide)
      · skip
        refine z_iconst (q := 34) C k_iconst_0 dX6_literal_33 rfl ?_
        refine z_iret C E (by omega) (by omega) dX6_literal_34 ?_
        exact Or.inl ⟨2, by omega, by unfold cdLit; rw [if_neg (by rw [c6]; decide), if_pos (by omega)], rfl, rfl⟩
  · skip
    refine z_iconst (q := 10) C k_iconst_1 dX6_literal_9 rfl ?_
    refine z_goto (tgt := 27) C dX6_literal_10 (by decide) ?_
    refine z_callV (q := 30) (n := 1) (As := [.int (nI 1)]) (rest := []) (wr := [(e 0, .inl (X.cI, 240, .inl (M 0))), (e 1, .inl (X.cI, 40, .inl (M 1))), (e 2, .inl (X.cI, 4200, .inl (M 2))), (e 3, .inl (X.cI, 4207, .inl (M 3))), (e 4, .inl (X.cI, 2048, .inl (M 4))), (e 5, .inl (X.cI, 600, .inl (M 5)))]) C (c_X6_refuses X.l X.D X.2.1 hm e M cd mb ak cnt k nl n m md fu 1 (by omega)) gX6_literal_X6_refuses rfl rfl rfl (by decide +kernel) (by decide) ⟨by first | decide | omega, by first | decide | omega⟩ 0 6 rfl rfl [0] [1, 2, 3, 4, 5, 6] rfl rfl (by decide) (by decide) (by decide) rfl rfl (Nat.le_of_ble_eq_true rfl) dX6_literal_27 rfl (fun v w1 hp => ?_)
    obtain ⟨rfl, rfl⟩ := hp
    show zW X 2 [(e 0, .inl (X.cI, 240, .inl (M 0))), (e 1, .inl (X.cI, 40, .inl (M 1))), (e 2, .inl (X.cI, 4200, .inl (M 2))), (e 3, .inl (X.cI, 4207, .inl (M 3))), (e 4, .inl (X.cI, 2048, .inl (M 4))), (e 5, .inl (X.cI, 600, .inl (M 5))), (hm, .inr (6, [.int (nI 1), .int (zb mb), .int (zb ak), .int (nI cnt), .int (nI k), .ref (e 0), .int (nI nl), .ref (e 1), .int (nI n), .ref (e 2), .int (nI m), .int (nI md), .ref (e 3), .ref (e 4), .int (zb fu), .ref (e 5)]))] _ _ 30 _ [.int (zb (decide (0 < 1)))]
    refine z_ws (ws' := [(hm, .inr (6, [.int (nI 1), .int (zb mb), .int (zb ak), .int (nI cnt), .int (nI k), .ref (e 0), .int (nI nl), .ref (e 1), .int (nI n), .ref (e 2), .int (nI m), .int (nI md), .ref (e 3), .ref (e 4), .int (zb fu), .ref (e 5)])), (e 0, .inl (X.cI, 240, .inl (M 0))), (e 1, .inl (X.cI, 40, .inl (M 1))), (e 2, .inl (X.cI, 4200, .inl (M 2))), (e 3, .inl (X.cI, 4207, .inl (M 3))), (e 4, .inl (X.cI, 2048, .inl (M 4))), (e 5, .inl (X.cI, 600, .inl (M 5)))]) [6, 0, 1, 2, 3, 4, 5] (by decide) rfl ?_
    refine z_if_eq_b (q := 33) (tgt := 35) C dX6_literal_30 (by decide) rfl (fun c30 => ?_) (fun c30 => ?_)
    · skip
      exact absurd c30 (by decide)
    · skip
      refine z_iconst (q := 34) C k_iconst_0 dX6_literal_33 rfl ?_
      refine z_iret C E (by omega) (by omega) dX6_literal_34 ?_
      exact Or.inl ⟨1, by omega, if_pos c6, rfl, rfl⟩

/-! the reference's given facts -/
def mgRep (fa : Nat → Int32) (k : Nat) (GL : List Row) : Prop := GL.length = k ∧ k ≤ 80 ∧ ∀ i j, i < k → j < 3 → fa (3 * i + j) = GL.getD i r0 j
theorem mgRep.le {fa : Nat → Int32} {k : Nat} {GL : List Row} (h : mgRep fa k GL) : k ≤ 80 := h.2.1
theorem mgRep.at0 {fa : Nat → Int32} {k : Nat} {GL : List Row} (h : mgRep fa k GL) {i : Nat} (hi : i < k) : fa (3 * i) = GL.getD i r0 0 := h.2.2 i 0 hi (by omega)
theorem mgRep.at1 {fa : Nat → Int32} {k : Nat} {GL : List Row} (h : mgRep fa k GL) {i : Nat} (hi : i < k) : fa (3 * i + 1) = GL.getD i r0 1 := h.2.2 i 1 hi (by omega)
theorem mgRep.at2 {fa : Nat → Int32} {k : Nat} {GL : List Row} (h : mgRep fa k GL) {i : Nat} (hi : i < k) : fa (3 * i + 2) = GL.getD i r0 2 := h.2.2 i 2 hi (by omega)
/-- the place of a fact: its index, or how many there are -/
def plc (GL : List Row) (s p o : Int32) : Nat := match GL.findIdx? (fun r => r 0 == s && (r 1 == p && r 2 == o)) with
  | some i => i
  | none => GL.length
theorem plc_none {L : List Row} {s p o : Int32} (h : ∀ j, j < L.length → ¬ (L.getD j r0 0 = s ∧ L.getD j r0 1 = p ∧ L.getD j r0 2 = o)) : plc L s p o = L.length ∧ hasF L s p o = false := by
  have hh : hasF L s p o = false := Bool.eq_false_iff.mpr (fun e => by obtain ⟨j, hj, e⟩ := hasF_iff.mp e; exact h j hj e)
  refine ⟨?_, hh⟩
  unfold plc
  rw [List.findIdx?_eq_none_iff.mpr (fun x hx => by
    refine Bool.eq_false_iff.mpr (fun e => ?_)
    unfold hasF at hh
    exact absurd (List.any_eq_true.mpr ⟨x, hx, e⟩) (by rw [hh]; decide))]
theorem plc_some {L : List Row} {s p o : Int32} {j : Nat} (hj : j < L.length) (h : L.getD j r0 0 = s ∧ L.getD j r0 1 = p ∧ L.getD j r0 2 = o) (hfirst : ∀ i, i < j → ¬ (L.getD i r0 0 = s ∧ L.getD i r0 1 = p ∧ L.getD i r0 2 = o)) : plc L s p o = j ∧ hasF L s p o = true ∧ remL L s p o = L.eraseIdx j := by
  have : L.findIdx? (fun r => r 0 == s && (r 1 == p && r 2 == o)) = some j := by
    rw [List.findIdx?_eq_some_iff_getElem]
    refine ⟨hj, ?_, fun i hi => ?_⟩
    · rw [getD_lt hj] at h
      simp only [Bool.and_eq_true, beq_iff_eq]
      exact h
    · have := hfirst i hi
      rw [getD_lt (by omega)] at this
      exact fun e => this (by simpa only [Bool.and_eq_true, beq_iff_eq] using e)
  exact ⟨by unfold plc; rw [this], hasF_iff.mpr ⟨j, hj, h⟩, by unfold remL; rw [this]⟩
theorem remL_none {L : List Row} {s p o : Int32} (h : hasF L s p o = false) : remL L s p o = L := by
  unfold remL
  split
  · rename_i i hi
    obtain ⟨h1, h2, -⟩ := List.findIdx?_eq_some_iff_getElem.mp hi
    unfold hasF at h
    exact absurd (List.any_eq_true.mpr ⟨_, List.getElem_mem h1, h2⟩) (by rw [h]; decide)
  · rfl

set_option maxHeartbeats 4000000 in
set_option maxRecDepth 100000 in
theorem l_X6_place {X : zX} (hm : Nat) (e : Nat → Nat) (M : Nat → Nat → Int32) (cd : Int32) (mb ak : Bool) (cnt k nl n m md : Nat) (fu : Bool) (GL : List Row) (hG : mgRep (M 0) k GL) (s p o : Int32) (C : zC X cX6_place 5 RX6 wsX6_place ({ frames := 0, cells := 0, slots := 0, locals := 0 } : Room)) (E : zE X (some .int) 0 0 (fun v w1 => ∃ i, (i < k ∧ hasF GL s p o = true ∧ remL GL s p o = GL.eraseIdx i ∨ i = k ∧ hasF GL s p o = false) ∧ v = some (.int (nI i)) ∧ w1 = [(hm, .inr (6, [.int cd, .int (zb mb), .int (zb ak), .int (nI cnt), .int (nI k), .ref (e 0), .int (nI nl), .ref (e 1), .int (nI n), .ref (e 2), .int (nI m), .int (nI md), .ref (e 3), .ref (e 4), .int (zb fu), .ref (e 5)])), (e 0, .inl (X.cI, 240, .inl (M 0)))])) : ∀ (z : Nat) (i : Nat), i ≤ k → k < i + z → (∀ e, e < i → ¬ (GL.getD e r0 0 = s ∧ GL.getD e r0 1 = p ∧ GL.getD e r0 2 = o)) → zW X 5 [(hm, .inr (6, [.int cd, .int (zb mb), .int (zb ak), .int (nI cnt), .int (nI k), .ref (e 0), .int (nI nl), .ref (e 1), .int (nI n), .ref (e 2), .int (nI m), .int (nI md), .ref (e 3), .ref (e 4), .int (zb fu), .ref (e 5)])), (e 0, .inl (X.cI, 240, .inl (M 0)))] 0 0 3 [(0, .ref hm), (1, .int s), (2, .int p), (3, .int o), (4, .int (nI i))] [] := by
  have hiX6 : ∀ w ∈ u_ws RX6 TX6 16, w ∈ wsX6_place := by decide +kernel
  have hf13 : Cond.fieldLink RX6 13 "RdfsRulesModel" "facts" "[I" ∈ wsX6_place := by decide +kernel
  have hf49 : Cond.fieldLink RX6 49 "RdfsRulesModel" "given" "I" ∈ wsX6_place := by decide +kernel
  intro z
  induction z with
  | zero =>
    intro i hi hz hno
    exfalso
    omega
  | succ z ih =>
    intro i hi hz hno
    have hk8 := hG.le
    refine z_iload (q := 5) C 4 rfl dX6_place_3 rfl ?_
    refine z_aload_n (q := 6) C 0 rfl rfl dX6_place_5 rfl ?_
    refine z_get (q := 9) (v := .int (nI k)) C hiX6 0 4 rfl rfl (by decide) hf49 rfl dX6_place_6 rfl ?_
    refine z_icmp_ge_n (q := 12) (tgt := 61) C (by omega) (by omega) dX6_place_9 (by decide) rfl (fun c9 => ?_) (fun c9 => ?_)
    · skip
      refine z_iload (q := 63) C 4 rfl dX6_place_61 rfl ?_
      refine z_iret C E (by omega) (by omega) dX6_place_63 ?_
      exact ⟨i, Or.inr ⟨by omega, (plc_none (fun j hj => hno j (by rw [hG.1] at hj; omega))).2⟩, rfl, rfl⟩
    · skip
      have hlt : i < k := c9
      refine z_aload_n (q := 13) C 0 rfl rfl dX6_place_12 rfl ?_
      refine z_get (q := 16) (v := .ref (e 0)) C hiX6 0 5 rfl rfl (by decide) hf13 rfl dX6_place_13 rfl ?_
      refine z_iconst (q := 17) C k_iconst_3 dX6_place_16 rfl ?_
      refine z_iload (q := 19) C 4 rfl dX6_place_17 rfl ?_
      refine z_imul (q := 20) C dX6_place_19 rfl ?_
      refine z_eqi (y := nI (3 * i)) (pk_mul 3 i) ?_
      refine z_iald (q := 21) C 1 rfl (i := 3 * i) (by omega) (by decide) dX6_place_20 rfl ?_
      refine z_iload_n (q := 22) C 1 rfl rfl dX6_place_21 rfl ?_
      refine z_icmp_ne (q := 25) (tgt := 55) C dX6_place_22 (by decide) rfl (fun c22 => ?_) (fun c22 => ?_)
      · skip
        refine z_iinc (q := 58) (v := nI (i + 1)) (lv' := [(4, .int (nI (i + 1))), (0, .ref hm), (1, .int s), (2, .int p), (3, .int o)]) C 4 dX6_place_55 rfl rfl (k_inc1 i) (by decide) rfl ?_
        refine z_goto (tgt := 3) C dX6_place_58 (by decide) ?_
        refine z_lv [1, 2, 3, 4, 0] rfl ?_
        exact ih (i + 1) (by omega) (by omega) (fun e he => by rcases Nat.lt_succ_iff_lt_or_eq.mp he with h1 | h1; exact hno e h1; subst h1; exact fun z => c22 (by rw [hG.at0 hlt]; exact z.1))
      · skip
        refine z_aload_n (q := 26) C 0 rfl rfl dX6_place_25 rfl ?_
        refine z_get (q := 29) (v := .ref (e 0)) C hiX6 0 5 rfl rfl (by decide) hf13 rfl dX6_place_26 rfl ?_
        refine z_iconst (q := 30) C k_iconst_3 dX6_place_29 rfl ?_
        refine z_iload (q := 32) C 4 rfl dX6_place_30 rfl ?_
        refine z_imul (q := 33) C dX6_place_32 rfl ?_
        refine z_eqi (y := nI (3 * i)) (pk_mul 3 i) ?_
        refine z_iconst (q := 34) C k_iconst_1 dX6_place_33 rfl ?_
        refine z_iadd (q := 35) C dX6_place_34 rfl ?_
        refine z_eqi (y := nI ((3 * i) + 1)) (nI_add (3 * i) 1) ?_
        refine z_iald (q := 36) C 1 rfl (i := (3 * i) + 1) (by omega) (by decide) dX6_place_35 rfl ?_
        refine z_iload_n (q := 37) C 2 rfl rfl dX6_place_36 rfl ?_
        refine z_icmp_ne (q := 40) (tgt := 55) C dX6_place_37 (by decide) rfl (fun c37 => ?_) (fun c37 => ?_)
        · skip
          refine z_iinc (q := 58) (v := nI (i + 1)) (lv' := [(4, .int (nI (i + 1))), (0, .ref hm), (1, .int s), (2, .int p), (3, .int o)]) C 4 dX6_place_55 rfl rfl (k_inc1 i) (by decide) rfl ?_
          refine z_goto (tgt := 3) C dX6_place_58 (by decide) ?_
          refine z_lv [1, 2, 3, 4, 0] rfl ?_
          exact ih (i + 1) (by omega) (by omega) (fun e he => by rcases Nat.lt_succ_iff_lt_or_eq.mp he with h1 | h1; exact hno e h1; subst h1; exact fun z => c37 (by rw [hG.at1 hlt]; exact z.2.1))
        · skip
          refine z_aload_n (q := 41) C 0 rfl rfl dX6_place_40 rfl ?_
          refine z_get (q := 44) (v := .ref (e 0)) C hiX6 0 5 rfl rfl (by decide) hf13 rfl dX6_place_41 rfl ?_
          refine z_iconst (q := 45) C k_iconst_3 dX6_place_44 rfl ?_
          refine z_iload (q := 47) C 4 rfl dX6_place_45 rfl ?_
          refine z_imul (q := 48) C dX6_place_47 rfl ?_
          refine z_eqi (y := nI (3 * i)) (pk_mul 3 i) ?_
          refine z_iconst (q := 49) C k_iconst_2 dX6_place_48 rfl ?_
          refine z_iadd (q := 50) C dX6_place_49 rfl ?_
          refine z_eqi (y := nI ((3 * i) + 2)) (nI_add (3 * i) 2) ?_
          refine z_iald (q := 51) C 1 rfl (i := (3 * i) + 2) (by omega) (by decide) dX6_place_50 rfl ?_
          refine z_iload_n (q := 52) C 3 rfl rfl dX6_place_51 rfl ?_
          refine z_icmp_eq (q := 55) (tgt := 61) C dX6_place_52 (by decide) rfl (fun c52 => ?_) (fun c52 => ?_)
          · skip
            refine z_iload (q := 63) C 4 rfl dX6_place_61 rfl ?_
            refine z_iret C E (by omega) (by omega) dX6_place_63 ?_
            have key := plc_some (j := i) (by rw [hG.1]; exact hlt) ⟨by rw [← hG.at0 hlt]; exact c22, by rw [← hG.at1 hlt]; exact c37, by rw [← hG.at2 hlt]; exact c52⟩ hno
            exact ⟨i, Or.inl ⟨hlt, key.2.1, key.2.2⟩, rfl, rfl⟩
          · skip
            refine z_iinc (q := 58) (v := nI (i + 1)) (lv' := [(4, .int (nI (i + 1))), (0, .ref hm), (1, .int s), (2, .int p), (3, .int o)]) C 4 dX6_place_55 rfl rfl (k_inc1 i) (by decide) rfl ?_
            refine z_goto (tgt := 3) C dX6_place_58 (by decide) ?_
            refine z_lv [1, 2, 3, 4, 0] rfl ?_
            exact ih (i + 1) (by omega) (by omega) (fun e he => by rcases Nat.lt_succ_iff_lt_or_eq.mp he with h1 | h1; exact hno e h1; subst h1; exact fun z => c52 (by rw [hG.at2 hlt]; exact z.2.2))

set_option maxHeartbeats 4000000 in
set_option maxRecDepth 100000 in
theorem c_X6_place (l : Launch) (D : va_G) (g : ClassId × ClassId × ClassId) (hm : Nat) (e : Nat → Nat) (M : Nat → Nat → Int32) (cd : Int32) (mb ak : Bool) (cnt k nl n m md : Nat) (fu : Bool) (GL : List Row) (hG : mgRep (M 0) k GL) (s p o : Int32) : zM l yX6_place wsX6_place ({ frames := 0, cells := 0, slots := 0, locals := 0 } : Room) D g [.ref hm, .int s, .int p, .int o] [(hm, .inr (6, [.int cd, .int (zb mb), .int (zb ak), .int (nI cnt), .int (nI k), .ref (e 0), .int (nI nl), .ref (e 1), .int (nI n), .ref (e 2), .int (nI m), .int (nI md), .ref (e 3), .ref (e 4), .int (zb fu), .ref (e 5)])), (e 0, .inl (g.1, 240, .inl (M 0)))] 0 0 (fun v w1 => ∃ i, (i < k ∧ hasF GL s p o = true ∧ remL GL s p o = GL.eraseIdx i ∨ i = k ∧ hasF GL s p o = false) ∧ v = some (.int (nI i)) ∧ w1 = [(hm, .inr (6, [.int cd, .int (zb mb), .int (zb ak), .int (nI cnt), .int (nI k), .ref (e 0), .int (nI nl), .ref (e 1), .int (nI n), .ref (e 2), .int (nI m), .int (nI md), .ref (e 3), .ref (e 4), .int (zb fu), .ref (e 5)])), (e 0, .inl (g.1, 240, .inl (M 0)))]) := by
  refine z_met (cc := cX6_place) (maxL := 5) (ret := (some .int)) (lv := [(0, .ref hm), (1, .int s), (2, .int p), (3, .int o)]) (by decide) rfl (Nat.le_of_ble_eq_true rfl) rfl ?_
  intro X hXD hXg hXl hnm C E
  subst hXD hXg hXl
  have C : zC X cX6_place 5 RX6 wsX6_place ({ frames := 0, cells := 0, slots := 0, locals := 0 } : Room) := C
  have hk8 := hG.le
  refine z_iconst (q := 1) C k_iconst_0 dX6_place_0 rfl ?_
  refine z_istore (q := 3) (lv' := [(4, .int (nI 0)), (0, .ref hm), (1, .int s), (2, .int p), (3, .int o)]) C dX6_place_1 rfl (by decide) rfl ?_
  refine z_lv [1, 2, 3, 4, 0] rfl ?_
  exact l_X6_place hm e M cd mb ak cnt k nl n m md fu GL hG s p o C E (k + 1) 0 (by omega) (by omega) (fun e he => absurd he (Nat.not_lt_zero e))

set_option maxHeartbeats 4000000 in
set_option maxRecDepth 100000 in
theorem c_X6_axioms (l : Launch) (D : va_G) (g : ClassId × ClassId × ClassId) (hm : Nat) (e : Nat → Nat) (M : Nat → Nat → Int32) (cd : Int32) (mb ak : Bool) (cnt k nl n m md : Nat) (fu : Bool) (b : Bool) : zM l yX6_axioms wsX6_axioms ({ frames := 0, cells := 0, slots := 0, locals := 0 } : Room) D g [.ref hm, .int (zb b)] [(hm, .inr (6, [.int cd, .int (zb mb), .int (zb ak), .int (nI cnt), .int (nI k), .ref (e 0), .int (nI nl), .ref (e 1), .int (nI n), .ref (e 2), .int (nI m), .int (nI md), .ref (e 3), .ref (e 4), .int (zb fu), .ref (e 5)]))] 0 0 (fun v w1 => v = none ∧ w1 = [(hm, .inr (6, [.int (nI 0), .int (zb mb), .int (zb b), .int (nI cnt), .int (nI k), .ref (e 0), .int (nI nl), .ref (e 1), .int (nI n), .ref (e 2), .int (nI m), .int (nI md), .ref (e 3), .ref (e 4), .int (zb fu), .ref (e 5)]))]) := by
  refine z_met (cc := cX6_axioms) (maxL := 2) (ret := none) (lv := [(0, .ref hm), (1, .int (zb b))]) (by decide) rfl (Nat.le_of_ble_eq_true rfl) rfl ?_
  intro X hXD hXg hXl hnm C E
  subst hXD hXg hXl
  have C : zC X cX6_axioms 2 RX6 wsX6_axioms ({ frames := 0, cells := 0, slots := 0, locals := 0 } : Room) := C
  have hiX6 : ∀ w ∈ u_ws RX6 TX6 16, w ∈ wsX6_axioms := by decide +kernel
  have hf36 : Cond.fieldLink RX6 36 "RdfsRulesModel" "code" "I" ∈ wsX6_axioms := by decide +kernel
  have hf75 : Cond.fieldLink RX6 75 "RdfsRulesModel" "asked" "Z" ∈ wsX6_axioms := by decide +kernel
  refine z_aload_n (q := 1) C 0 rfl rfl dX6_axioms_0 rfl ?_
  refine z_iconst (q := 2) C k_iconst_0 dX6_axioms_1 rfl ?_
  refine z_put (q := 5) (ws' := [(hm, .inr (6, [.int (nI 0), .int (zb mb), .int (zb ak), .int (nI cnt), .int (nI k), .ref (e 0), .int (nI nl), .ref (e 1), .int (nI n), .ref (e 2), .int (nI m), .int (nI md), .ref (e 3), .ref (e 4), .int (zb fu), .ref (e 5)]))]) C hiX6 tyX6_ok nmX6 0 0 rfl rfl (by decide) hf36 rfl rfl rfl (Nat.le_of_ble_eq_true rfl) dX6_axioms_2 rfl rfl ?_
  refine z_aload_n (q := 6) C 0 rfl rfl dX6_axioms_5 rfl ?_
  refine z_iload_n (q := 7) C 1 rfl rfl dX6_axioms_6 rfl ?_
  refine z_put (q := 10) (ws' := [(hm, .inr (6, [.int (nI 0), .int (zb mb), .int (zb b), .int (nI cnt), .int (nI k), .ref (e 0), .int (nI nl), .ref (e 1), .int (nI n), .ref (e 2), .int (nI m), .int (nI md), .ref (e 3), .ref (e 4), .int (zb fu), .ref (e 5)]))]) C hiX6 tyX6_ok nmX6 0 2 rfl rfl (by decide) hf75 rfl (zb_nar _) (zb_fit _) (Nat.le_of_ble_eq_true rfl) dX6_axioms_7 rfl rfl ?_
  refine z_vret C E (by omega) (by omega) dX6_axioms_10 ?_
  exact ⟨rfl, rfl⟩

set_option maxHeartbeats 4000000 in
set_option maxRecDepth 100000 in
theorem c_X6_count (l : Launch) (D : va_G) (g : ClassId × ClassId × ClassId) (hm : Nat) (e : Nat → Nat) (M : Nat → Nat → Int32) (cd : Int32) (mb ak : Bool) (cnt k nl n m md : Nat) (fu : Bool) (x : Int32) : zM l yX6_count wsX6_count ({ frames := 1, cells := 0, slots := 0, locals := 21 } : Room) D g [.ref hm, .int x] [(hm, .inr (6, [.int cd, .int (zb mb), .int (zb ak), .int (nI cnt), .int (nI k), .ref (e 0), .int (nI nl), .ref (e 1), .int (nI n), .ref (e 2), .int (nI m), .int (nI md), .ref (e 3), .ref (e 4), .int (zb fu), .ref (e 5)]))] 0 0 (fun v w1 => (cdCnt x = 1 ∧ v = none ∧ w1 = [(hm, .inr (6, [.int (nI 1), .int (zb mb), .int (zb ak), .int (nI cnt), .int (nI k), .ref (e 0), .int (nI nl), .ref (e 1), .int (nI n), .ref (e 2), .int (nI m), .int (nI md), .ref (e 3), .ref (e 4), .int (zb fu), .ref (e 5)]))]) ∨ (cdCnt x = 0 ∧ ∃ j, j ≤ 9 ∧ x = nI j ∧ v = none ∧ w1 = [(hm, .inr (6, [.int (nI 0), .int (zb mb), .int (zb ak), .int (nI j), .int (nI k), .ref (e 0), .int (nI nl), .ref (e 1), .int (nI n), .ref (e 2), .int (nI m), .int (nI md), .ref (e 3), .ref (e 4), .int (zb fu), .ref (e 5)]))])) := by
  refine z_met (cc := cX6_count) (maxL := 2) (ret := none) (lv := [(0, .ref hm), (1, .int x)]) (by decide) rfl (Nat.le_of_ble_eq_true rfl) rfl ?_
  intro X hXD hXg hXl hnm C E
  subst hXD hXg hXl
  have C : zC X cX6_count 2 RX6 wsX6_count ({ frames := 1, cells := 0, slots := 0, locals := 21 } : Room) := C
  have hiX6 : ∀ w ∈ u_ws RX6 TX6 16, w ∈ wsX6_count := by decide +kernel
  have hf7 : Cond.fieldLink RX6 7 "RdfsRulesModel" "counted" "I" ∈ wsX6_count := by decide +kernel
  refine z_aload_n (q := 1) C 0 rfl rfl dX6_count_0 rfl ?_
  refine z_iload_n (q := 2) C 1 rfl rfl dX6_count_1 rfl ?_
  refine z_if_lt_i (q := 5) (tgt := 11) C rfl dX6_count_2 (by decide) rfl (fun c2 => ?_) (fun c2 => ?_)
  · skip
    refine z_iconst (q := 12) C k_iconst_1 dX6_count_11 rfl ?_
    refine z_goto (tgt := 16) C dX6_count_12 (by decide) ?_
    refine z_callV (q := 19) (n := 1) (As := [.int (nI 1)]) (rest := []) (wr := []) C (c_X6_refuses X.l X.D X.2.1 hm e M cd mb ak cnt k nl n m md fu 1 (by omega)) gX6_count_X6_refuses rfl rfl rfl (by decide +kernel) (by decide) ⟨by first | decide | omega, by first | decide | omega⟩ 0 6 rfl rfl [0] [] rfl rfl (by decide) (by decide) (by decide) rfl rfl (Nat.le_of_ble_eq_true rfl) dX6_count_16 rfl (fun v w1 hp => ?_)
    obtain ⟨rfl, rfl⟩ := hp
    show zW X 2 [(hm, .inr (6, [.int (nI 1), .int (zb mb), .int (zb ak), .int (nI cnt), .int (nI k), .ref (e 0), .int (nI nl), .ref (e 1), .int (nI n), .ref (e 2), .int (nI m), .int (nI md), .ref (e 3), .ref (e 4), .int (zb fu), .ref (e 5)]))] _ _ 19 _ [.int (zb (decide (0 < 1)))]
    refine z_if_ne_b (q := 22) (tgt := 27) C dX6_count_19 (by decide) rfl (fun c19 => ?_) (fun c19 => ?_)
    · skip
      refine z_vret C E (by omega) (by omega) dX6_count_27 ?_
      exact Or.inl ⟨if_neg (by omega), rfl, rfl⟩
    · skip
      exact absurd c19 (by decide)
  · skip
    refine z_iload_n (q := 6) C 1 rfl rfl dX6_count_5 rfl ?_
    refine z_bipush (q := 8) C k_bipush_9 dX6_count_6 rfl ?_
    refine z_icmp_le_i (q := 11) (tgt := 15) C rfl ti_9 dX6_count_8 (by decide) rfl (fun c8 => ?_) (fun c8 => ?_)
    · skip
      obtain ⟨j, hj, rfl⟩ := i_of 9 c2 c8
      refine z_iconst (q := 16) C k_iconst_0 dX6_count_15 rfl ?_
      refine z_callV (q := 19) (n := 1) (As := [.int (nI 0)]) (rest := []) (wr := []) C (c_X6_refuses X.l X.D X.2.1 hm e M cd mb ak cnt k nl n m md fu 0 (by omega)) gX6_count_X6_refuses rfl rfl rfl (by decide +kernel) (by decide) ⟨by first | decide | omega, by first | decide | omega⟩ 0 6 rfl rfl [0] [] rfl rfl (by decide) (by decide) (by decide) rfl rfl (Nat.le_of_ble_eq_true rfl) dX6_count_16 rfl (fun v w1 hp => ?_)
      obtain ⟨rfl, rfl⟩ := hp
      show zW X 2 [(hm, .inr (6, [.int (nI 0), .int (zb mb), .int (zb ak), .int (nI cnt), .int (nI k), .ref (e 0), .int (nI nl), .ref (e 1), .int (nI n), .ref (e 2), .int (nI m), .int (nI md), .ref (e 3), .ref (e 4), .int (zb fu), .ref (e 5)]))] _ _ 19 _ [.int (zb (decide (0 < 0)))]
      refine z_if_ne_b (q := 22) (tgt := 27) C dX6_count_19 (by decide) rfl (fun c19 => ?_) (fun c19 => ?_)
      · skip
        exact absurd c19 (by decide)
      · skip
        refine z_aload_n (q := 23) C 0 rfl rfl dX6_count_22 rfl ?_
        refine z_iload_n (q := 24) C 1 rfl rfl dX6_count_23 rfl ?_
        refine z_put (q := 27) (ws' := [(hm, .inr (6, [.int (nI 0), .int (zb mb), .int (zb ak), .int (nI j), .int (nI k), .ref (e 0), .int (nI nl), .ref (e 1), .int (nI n), .ref (e 2), .int (nI m), .int (nI md), .ref (e 3), .ref (e 4), .int (zb fu), .ref (e 5)]))]) C hiX6 tyX6_ok nmX6 0 3 rfl rfl (by decide) hf7 rfl rfl rfl (Nat.le_of_ble_eq_true rfl) dX6_count_24 rfl rfl ?_
        refine z_vret C E (by omega) (by omega) dX6_count_27 ?_
        exact Or.inr ⟨if_pos ⟨c2, c8⟩, j, hj, rfl, rfl, rfl⟩
    · skip
      refine z_iconst (q := 12) C k_iconst_1 dX6_count_11 rfl ?_
      refine z_goto (tgt := 16) C dX6_count_12 (by decide) ?_
      refine z_callV (q := 19) (n := 1) (As := [.int (nI 1)]) (rest := []) (wr := []) C (c_X6_refuses X.l X.D X.2.1 hm e M cd mb ak cnt k nl n m md fu 1 (by omega)) gX6_count_X6_refuses rfl rfl rfl (by decide +kernel) (by decide) ⟨by first | decide | omega, by first | decide | omega⟩ 0 6 rfl rfl [0] [] rfl rfl (by decide) (by decide) (by decide) rfl rfl (Nat.le_of_ble_eq_true rfl) dX6_count_16 rfl (fun v w1 hp => ?_)
      obtain ⟨rfl, rfl⟩ := hp
      show zW X 2 [(hm, .inr (6, [.int (nI 1), .int (zb mb), .int (zb ak), .int (nI cnt), .int (nI k), .ref (e 0), .int (nI nl), .ref (e 1), .int (nI n), .ref (e 2), .int (nI m), .int (nI md), .ref (e 3), .ref (e 4), .int (zb fu), .ref (e 5)]))] _ _ 19 _ [.int (zb (decide (0 < 1)))]
      refine z_if_ne_b (q := 22) (tgt := 27) C dX6_count_19 (by decide) rfl (fun c19 => ?_) (fun c19 => ?_)
      · skip
        refine z_vret C E (by omega) (by omega) dX6_count_27 ?_
        exact Or.inl ⟨if_neg (by omega), rfl, rfl⟩
      · skip
        exact absurd c19 (by decide)
