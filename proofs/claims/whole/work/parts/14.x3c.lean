theorem rowsRep.at {F : Nat → Nat → Int32} {n : Nat} {ov : Bool} {S : RSt} (h : rowsRep F n ov S) {i j : Nat} (hi : i < n) (hj : j < 7) : F j i = S.1.getD i r0 j := h.2.2.2.2.1 i j hi hj
set_option maxHeartbeats 4000000 in
set_option maxRecDepth 100000 in
theorem c_X3_part (l : Launch) (D : va_G) (g : ClassId × ClassId × ClassId) (h : Nat) (a : Nat → Nat) (F : Nat → Nat → Int32) (n : Nat) (ov : Bool) (am : Int32) (S : RSt) (hR : rowsRep F n ov S) (i w : Nat) (hi : i < n) (hw : w ≤ 6) : zM l yX3_part wsX3_part ({ frames := 0, cells := 0, slots := 0, locals := 0 } : Room) D g [.ref h, .int (nI i), .int (nI w)] [(h, .inr (3, [.ref (a 0), .ref (a 1), .ref (a 2), .ref (a 3), .ref (a 4), .ref (a 5), .ref (a 6), .ref (a 7), .ref (a 8), .int (nI n), .int (zb ov), .int am])), (a 0, .inl (g.1, 600, .inl (F 0))), (a 1, .inl (g.1, 600, .inl (F 1))), (a 2, .inl (g.1, 600, .inl (F 2))), (a 3, .inl (g.1, 600, .inl (F 3))), (a 4, .inl (g.1, 600, .inl (F 4))), (a 5, .inl (g.1, 600, .inl (F 5))), (a 6, .inl (g.1, 600, .inl (F 6))), (a 7, .inl (g.1, 1024, .inl (F 7))), (a 8, .inl (g.2.1, 600, .inl (F 8)))] 0 0 (fun v w1 => v = some (.int (S.1.getD i r0 w)) ∧ w1 = [(h, .inr (3, [.ref (a 0), .ref (a 1), .ref (a 2), .ref (a 3), .ref (a 4), .ref (a 5), .ref (a 6), .ref (a 7), .ref (a 8), .int (nI n), .int (zb ov), .int am])), (a 0, .inl (g.1, 600, .inl (F 0))), (a 1, .inl (g.1, 600, .inl (F 1))), (a 2, .inl (g.1, 600, .inl (F 2))), (a 3, .inl (g.1, 600, .inl (F 3))), (a 4, .inl (g.1, 600, .inl (F 4))), (a 5, .inl (g.1, 600, .inl (F 5))), (a 6, .inl (g.1, 600, .inl (F 6))), (a 7, .inl (g.1, 1024, .inl (F 7))), (a 8, .inl (g.2.1, 600, .inl (F 8)))]) := by
  refine z_met (cc := cX3_part) (maxL := 3) (ret := (some .int)) (lv := [(0, .ref h), (1, .int (nI i)), (2, .int (nI w))]) (by decide) rfl (Nat.le_of_ble_eq_true rfl) rfl ?_
  intro X hXD hXg hXl hnm C E
  subst hXD hXg hXl
  have C : zC X cX3_part 3 RX3 wsX3_part ({ frames := 0, cells := 0, slots := 0, locals := 0 } : Room) := C
  have hiX3 : ∀ w ∈ u_ws RX3 TX3 12, w ∈ wsX3_part := by decide +kernel
  have hf9 : Cond.fieldLink RX3 9 "RdfsRules$Rows" "subjects" "[I" ∈ wsX3_part := by decide +kernel
  have hf15 : Cond.fieldLink RX3 15 "RdfsRules$Rows" "properties" "[I" ∈ wsX3_part := by decide +kernel
  have hf18 : Cond.fieldLink RX3 18 "RdfsRules$Rows" "objects" "[I" ∈ wsX3_part := by decide +kernel
  have hf21 : Cond.fieldLink RX3 21 "RdfsRules$Rows" "rules" "[I" ∈ wsX3_part := by decide +kernel
  have hf24 : Cond.fieldLink RX3 24 "RdfsRules$Rows" "firsts" "[I" ∈ wsX3_part := by decide +kernel
  have hf27 : Cond.fieldLink RX3 27 "RdfsRules$Rows" "seconds" "[I" ∈ wsX3_part := by decide +kernel
  have hf30 : Cond.fieldLink RX3 30 "RdfsRules$Rows" "rounds" "[I" ∈ wsX3_part := by decide +kernel
  have hn6 := hR.le
  rcases (show w = 0 ∨ w = 1 ∨ w = 2 ∨ w = 3 ∨ w = 4 ∨ w = 5 ∨ w = 6 by omega) with rfl | rfl | rfl | rfl | rfl | rfl | rfl
  · skip
    refine z_iload_n (q := 1) C 2 rfl rfl dX3_part_0 rfl ?_
    refine z_tableIn (off := 39) (tgt := 40) C dX3_part_1 (by decide) (by decide) (by decide) (by decide) ?_
    refine z_aload_n (q := 41) C 0 rfl rfl dX3_part_40 rfl ?_
    refine z_get (q := 44) (v := .ref (a 0)) C hiX3 0 0 rfl rfl (by decide) hf9 rfl dX3_part_41 rfl ?_
    refine z_iload_n (q := 45) C 1 rfl rfl dX3_part_44 rfl ?_
    refine z_iald (q := 46) C 1 rfl (i := i) (by omega) (by decide) dX3_part_45 rfl ?_
    refine z_iret C E (by omega) (by omega) dX3_part_46 ?_
    exact ⟨by rw [hR.at hi (by omega)], rfl⟩
  · skip
    refine z_iload_n (q := 1) C 2 rfl rfl dX3_part_0 rfl ?_
    refine z_tableIn (off := 46) (tgt := 47) C dX3_part_1 (by decide) (by decide) (by decide) (by decide) ?_
    refine z_aload_n (q := 48) C 0 rfl rfl dX3_part_47 rfl ?_
    refine z_get (q := 51) (v := .ref (a 1)) C hiX3 0 1 rfl rfl (by decide) hf15 rfl dX3_part_48 rfl ?_
    refine z_iload_n (q := 52) C 1 rfl rfl dX3_part_51 rfl ?_
    refine z_iald (q := 53) C 2 rfl (i := i) (by omega) (by decide) dX3_part_52 rfl ?_
    refine z_iret C E (by omega) (by omega) dX3_part_53 ?_
    exact ⟨by rw [hR.at hi (by omega)], rfl⟩
  · skip
    refine z_iload_n (q := 1) C 2 rfl rfl dX3_part_0 rfl ?_
    refine z_tableIn (off := 53) (tgt := 54) C dX3_part_1 (by decide) (by decide) (by decide) (by decide) ?_
    refine z_aload_n (q := 55) C 0 rfl rfl dX3_part_54 rfl ?_
    refine z_get (q := 58) (v := .ref (a 2)) C hiX3 0 2 rfl rfl (by decide) hf18 rfl dX3_part_55 rfl ?_
    refine z_iload_n (q := 59) C 1 rfl rfl dX3_part_58 rfl ?_
    refine z_iald (q := 60) C 3 rfl (i := i) (by omega) (by decide) dX3_part_59 rfl ?_
    refine z_iret C E (by omega) (by omega) dX3_part_60 ?_
    exact ⟨by rw [hR.at hi (by omega)], rfl⟩
  · skip
    refine z_iload_n (q := 1) C 2 rfl rfl dX3_part_0 rfl ?_
    refine z_tableIn (off := 60) (tgt := 61) C dX3_part_1 (by decide) (by decide) (by decide) (by decide) ?_
    refine z_aload_n (q := 62) C 0 rfl rfl dX3_part_61 rfl ?_
    refine z_get (q := 65) (v := .ref (a 3)) C hiX3 0 3 rfl rfl (by decide) hf21 rfl dX3_part_62 rfl ?_
    refine z_iload_n (q := 66) C 1 rfl rfl dX3_part_65 rfl ?_
    refine z_iald (q := 67) C 4 rfl (i := i) (by omega) (by decide) dX3_part_66 rfl ?_
    refine z_iret C E (by omega) (by omega) dX3_part_67 ?_
    exact ⟨by rw [hR.at hi (by omega)], rfl⟩
  · skip
    refine z_iload_n (q := 1) C 2 rfl rfl dX3_part_0 rfl ?_
    refine z_tableIn (off := 67) (tgt := 68) C dX3_part_1 (by decide) (by decide) (by decide) (by decide) ?_
    refine z_aload_n (q := 69) C 0 rfl rfl dX3_part_68 rfl ?_
    refine z_get (q := 72) (v := .ref (a 4)) C hiX3 0 4 rfl rfl (by decide) hf24 rfl dX3_part_69 rfl ?_
    refine z_iload_n (q := 73) C 1 rfl rfl dX3_part_72 rfl ?_
    refine z_iald (q := 74) C 5 rfl (i := i) (by omega) (by decide) dX3_part_73 rfl ?_
    refine z_iret C E (by omega) (by omega) dX3_part_74 ?_
    exact ⟨by rw [hR.at hi (by omega)], rfl⟩
  · skip
    refine z_iload_n (q := 1) C 2 rfl rfl dX3_part_0 rfl ?_
    refine z_tableIn (off := 74) (tgt := 75) C dX3_part_1 (by decide) (by decide) (by decide) (by decide) ?_
    refine z_aload_n (q := 76) C 0 rfl rfl dX3_part_75 rfl ?_
    refine z_get (q := 79) (v := .ref (a 5)) C hiX3 0 5 rfl rfl (by decide) hf27 rfl dX3_part_76 rfl ?_
    refine z_iload_n (q := 80) C 1 rfl rfl dX3_part_79 rfl ?_
    refine z_iald (q := 81) C 6 rfl (i := i) (by omega) (by decide) dX3_part_80 rfl ?_
    refine z_iret C E (by omega) (by omega) dX3_part_81 ?_
    exact ⟨by rw [hR.at hi (by omega)], rfl⟩
  · skip
    refine z_iload_n (q := 1) C 2 rfl rfl dX3_part_0 rfl ?_
    refine z_tableOut (tgt := 82) C dX3_part_1 (by decide) (by decide) ?_
    refine z_aload_n (q := 83) C 0 rfl rfl dX3_part_82 rfl ?_
    refine z_get (q := 86) (v := .ref (a 6)) C hiX3 0 6 rfl rfl (by decide) hf30 rfl dX3_part_83 rfl ?_
    refine z_iload_n (q := 87) C 1 rfl rfl dX3_part_86 rfl ?_
    refine z_iald (q := 88) C 7 rfl (i := i) (by omega) (by decide) dX3_part_87 rfl ?_
    refine z_iret C E (by omega) (by omega) dX3_part_88 ?_
    exact ⟨by rw [hR.at hi (by omega)], rfl⟩

def cntN (P : Row → Bool) (L : List Row) : Nat → Nat
  | 0 => 0
  | k + 1 => cntN P L k + (if P (L.getD k r0) then 1 else 0)
theorem cntN_le (P : Row → Bool) (L : List Row) : ∀ k, cntN P L k ≤ k
  | 0 => Nat.le_refl 0
  | k + 1 => by
    have := cntN_le P L k
    unfold cntN
    split <;> omega
theorem cntN_t {P : Row → Bool} {L : List Row} {k : Nat} (h : P (L.getD k r0) = true) : cntN P L (k + 1) = cntN P L k + 1 := by show cntN P L k + _ = _; rw [if_pos h]
theorem cntN_f {P : Row → Bool} {L : List Row} {k : Nat} (h : P (L.getD k r0) = false) : cntN P L (k + 1) = cntN P L k := by
  show cntN P L k + _ = _
  rw [h]
  rfl
def ruleP (x : Int32) : Row → Bool := fun r => decide (r 3 = x)
def litP : Row → Bool := fun r => decide (300 ≤ (r 0).toInt)
def memP (m : Nat) : Row → Bool := fun r => decide (20 + (m : Int) ≤ (r 1).toInt ∧ (r 1).toInt < 29)

set_option maxHeartbeats 4000000 in
set_option maxRecDepth 100000 in
theorem l_X3_madeBy {X : zX} (h : Nat) (a : Nat → Nat) (F : Nat → Nat → Int32) (n : Nat) (ov : Bool) (am : Int32) (S : RSt) (x : Int32) (hR : rowsRep F n ov S) (C : zC X cX3_madeBy 4 RX3 wsX3_madeBy ({ frames := 0, cells := 0, slots := 0, locals := 0 } : Room)) (E : zE X (some .int) 0 0 (fun v w1 => v = some (.int (nI (cntN (ruleP x) S.1 n))) ∧ w1 = [(h, .inr (3, [.ref (a 0), .ref (a 1), .ref (a 2), .ref (a 3), .ref (a 4), .ref (a 5), .ref (a 6), .ref (a 7), .ref (a 8), .int (nI n), .int (zb ov), .int am])), (a 0, .inl (X.cI, 600, .inl (F 0))), (a 1, .inl (X.cI, 600, .inl (F 1))), (a 2, .inl (X.cI, 600, .inl (F 2))), (a 3, .inl (X.cI, 600, .inl (F 3))), (a 4, .inl (X.cI, 600, .inl (F 4))), (a 5, .inl (X.cI, 600, .inl (F 5))), (a 6, .inl (X.cI, 600, .inl (F 6))), (a 7, .inl (X.cI, 1024, .inl (F 7))), (a 8, .inl (X.cZ, 600, .inl (F 8)))])) : ∀ (k : Nat) (i : Nat), i ≤ n → n < i + k → zW X 4 [(h, .inr (3, [.ref (a 0), .ref (a 1), .ref (a 2), .ref (a 3), .ref (a 4), .ref (a 5), .ref (a 6), .ref (a 7), .ref (a 8), .int (nI n), .int (zb ov), .int am])), (a 0, .inl (X.cI, 600, .inl (F 0))), (a 1, .inl (X.cI, 600, .inl (F 1))), (a 2, .inl (X.cI, 600, .inl (F 2))), (a 3, .inl (X.cI, 600, .inl (F 3))), (a 4, .inl (X.cI, 600, .inl (F 4))), (a 5, .inl (X.cI, 600, .inl (F 5))), (a 6, .inl (X.cI, 600, .inl (F 6))), (a 7, .inl (X.cI, 1024, .inl (F 7))), (a 8, .inl (X.cZ, 600, .inl (F 8)))] 0 0 4 [(0, .ref h), (1, .int x), (2, .int (nI (cntN (ruleP x) S.1 i))), (3, .int (nI i))] [] := by
  have hiX3 : ∀ w ∈ u_ws RX3 TX3 12, w ∈ wsX3_madeBy := by decide +kernel
  have hf21 : Cond.fieldLink RX3 21 "RdfsRules$Rows" "rules" "[I" ∈ wsX3_madeBy := by decide +kernel
  have hf40 : Cond.fieldLink RX3 40 "RdfsRules$Rows" "size" "I" ∈ wsX3_madeBy := by decide +kernel
  intro k
  induction k with
  | zero =>
    intro i hi hk
    exfalso
    omega
  | succ k ih =>
    intro i hi hk
    have hn6 := hR.le
    have hcl := cntN_le (ruleP x) S.1 i
    refine z_iload_n (q := 5) C 3 rfl rfl dX3_madeBy_4 rfl ?_
    refine z_aload_n (q := 6) C 0 rfl rfl dX3_madeBy_5 rfl ?_
    refine z_get (q := 9) (v := .int (nI n)) C hiX3 0 9 rfl rfl (by decide) hf40 rfl dX3_madeBy_6 rfl ?_
    refine z_icmp_ge_n (q := 12) (tgt := 31) C (by omega) (by omega) dX3_madeBy_9 (by decide) rfl (fun c9 => ?_) (fun c9 => ?_)
    · skip
      refine z_iload_n (q := 32) C 2 rfl rfl dX3_madeBy_31 rfl ?_
      refine z_iret C E (by omega) (by omega) dX3_madeBy_32 ?_
      have hin : i = n := by omega
      subst hin
      exact ⟨rfl, rfl⟩
    · skip
      have hlt : i < n := c9
      refine z_aload_n (q := 13) C 0 rfl rfl dX3_madeBy_12 rfl ?_
      refine z_get (q := 16) (v := .ref (a 3)) C hiX3 0 3 rfl rfl (by decide) hf21 rfl dX3_madeBy_13 rfl ?_
      refine z_iload_n (q := 17) C 3 rfl rfl dX3_madeBy_16 rfl ?_
      refine z_iald (q := 18) C 4 rfl (i := i) (by omega) (by decide) dX3_madeBy_17 rfl ?_
      refine z_iload_n (q := 19) C 1 rfl rfl dX3_madeBy_18 rfl ?_
      refine z_icmp_ne (q := 22) (tgt := 25) C dX3_madeBy_19 (by decide) rfl (fun c19 => ?_) (fun c19 => ?_)
      · skip
        refine z_iinc (q := 28) (v := nI (i + 1)) (lv' := [(3, .int (nI (i + 1))), (0, .ref h), (1, .int x), (2, .int (nI (cntN (ruleP x) S.1 i)))]) C 3 dX3_madeBy_25 rfl rfl (k_inc1 i) (by decide) rfl ?_
        refine z_goto (tgt := 4) C dX3_madeBy_28 (by decide) ?_
        refine z_lv [1, 2, 3, 0] rfl ?_
        have hc : (ruleP x) (S.1.getD i r0) = false := decide_eq_false (by rw [← hR.at hlt (by omega)]; exact c19)
        rw [← cntN_f hc]
        exact ih (i + 1) (by omega) (by omega)
      · skip
        refine z_iinc (q := 25) (v := nI (cntN (ruleP x) S.1 i + 1)) (lv' := [(2, .int (nI (cntN (ruleP x) S.1 i + 1))), (0, .ref h), (1, .int x), (3, .int (nI i))]) C 2 dX3_madeBy_22 rfl rfl (k_inc1 (cntN (ruleP x) S.1 i)) (by decide) rfl ?_
        refine z_iinc (q := 28) (v := nI (i + 1)) (lv' := [(3, .int (nI (i + 1))), (2, .int (nI (cntN (ruleP x) S.1 i + 1))), (0, .ref h), (1, .int x)]) C 3 dX3_madeBy_25 rfl rfl (k_inc1 i) (by decide) rfl ?_
        refine z_goto (tgt := 4) C dX3_madeBy_28 (by decide) ?_
        refine z_lv [2, 3, 1, 0] rfl ?_
        have hc : (ruleP x) (S.1.getD i r0) = true := decide_eq_true (by rw [← hR.at hlt (by omega)]; exact c19)
        rw [← cntN_t hc]
        exact ih (i + 1) (by omega) (by omega)

set_option maxHeartbeats 4000000 in
set_option maxRecDepth 100000 in
theorem c_X3_madeBy (l : Launch) (D : va_G) (g : ClassId × ClassId × ClassId) (h : Nat) (a : Nat → Nat) (F : Nat → Nat → Int32) (n : Nat) (ov : Bool) (am : Int32) (S : RSt) (x : Int32) (hR : rowsRep F n ov S) : zM l yX3_madeBy wsX3_madeBy ({ frames := 0, cells := 0, slots := 0, locals := 0 } : Room) D g [.ref h, .int x] [(h, .inr (3, [.ref (a 0), .ref (a 1), .ref (a 2), .ref (a 3), .ref (a 4), .ref (a 5), .ref (a 6), .ref (a 7), .ref (a 8), .int (nI n), .int (zb ov), .int am])), (a 0, .inl (g.1, 600, .inl (F 0))), (a 1, .inl (g.1, 600, .inl (F 1))), (a 2, .inl (g.1, 600, .inl (F 2))), (a 3, .inl (g.1, 600, .inl (F 3))), (a 4, .inl (g.1, 600, .inl (F 4))), (a 5, .inl (g.1, 600, .inl (F 5))), (a 6, .inl (g.1, 600, .inl (F 6))), (a 7, .inl (g.1, 1024, .inl (F 7))), (a 8, .inl (g.2.1, 600, .inl (F 8)))] 0 0 (fun v w1 => v = some (.int (nI (cntN (ruleP x) S.1 n))) ∧ w1 = [(h, .inr (3, [.ref (a 0), .ref (a 1), .ref (a 2), .ref (a 3), .ref (a 4), .ref (a 5), .ref (a 6), .ref (a 7), .ref (a 8), .int (nI n), .int (zb ov), .int am])), (a 0, .inl (g.1, 600, .inl (F 0))), (a 1, .inl (g.1, 600, .inl (F 1))), (a 2, .inl (g.1, 600, .inl (F 2))), (a 3, .inl (g.1, 600, .inl (F 3))), (a 4, .inl (g.1, 600, .inl (F 4))), (a 5, .inl (g.1, 600, .inl (F 5))), (a 6, .inl (g.1, 600, .inl (F 6))), (a 7, .inl (g.1, 1024, .inl (F 7))), (a 8, .inl (g.2.1, 600, .inl (F 8)))]) := by
  refine z_met (cc := cX3_madeBy) (maxL := 4) (ret := (some .int)) (lv := [(0, .ref h), (1, .int x)]) (by decide) rfl (Nat.le_of_ble_eq_true rfl) rfl ?_
  intro X hXD hXg hXl hnm C E
  subst hXD hXg hXl
  have C : zC X cX3_madeBy 4 RX3 wsX3_madeBy ({ frames := 0, cells := 0, slots := 0, locals := 0 } : Room) := C
  have hn6 := hR.le
  refine z_iconst (q := 1) C k_iconst_0 dX3_madeBy_0 rfl ?_
  refine z_istore_n (q := 2) (lv' := [(2, .int (nI 0)), (0, .ref h), (1, .int x)]) C rfl dX3_madeBy_1 rfl (by decide) rfl ?_
  refine z_iconst (q := 3) C k_iconst_0 dX3_madeBy_2 rfl ?_
  refine z_istore_n (q := 4) (lv' := [(3, .int (nI 0)), (2, .int (nI 0)), (0, .ref h), (1, .int x)]) C rfl dX3_madeBy_3 rfl (by decide) rfl ?_
  refine z_lv [2, 3, 1, 0] rfl ?_
  exact l_X3_madeBy h a F n ov am S x hR C E (n + 1) 0 (by omega) (by omega)

set_option maxHeartbeats 4000000 in
set_option maxRecDepth 100000 in
theorem l_X3_literalSubjects {X : zX} (h : Nat) (a : Nat → Nat) (F : Nat → Nat → Int32) (n : Nat) (ov : Bool) (am : Int32) (S : RSt)  (hR : rowsRep F n ov S) (C : zC X cX3_literalSubjects 3 RX3 wsX3_literalSubjects ({ frames := 0, cells := 0, slots := 0, locals := 0 } : Room)) (E : zE X (some .int) 0 0 (fun v w1 => v = some (.int (nI (cntN litP S.1 n))) ∧ w1 = [(h, .inr (3, [.ref (a 0), .ref (a 1), .ref (a 2), .ref (a 3), .ref (a 4), .ref (a 5), .ref (a 6), .ref (a 7), .ref (a 8), .int (nI n), .int (zb ov), .int am])), (a 0, .inl (X.cI, 600, .inl (F 0))), (a 1, .inl (X.cI, 600, .inl (F 1))), (a 2, .inl (X.cI, 600, .inl (F 2))), (a 3, .inl (X.cI, 600, .inl (F 3))), (a 4, .inl (X.cI, 600, .inl (F 4))), (a 5, .inl (X.cI, 600, .inl (F 5))), (a 6, .inl (X.cI, 600, .inl (F 6))), (a 7, .inl (X.cI, 1024, .inl (F 7))), (a 8, .inl (X.cZ, 600, .inl (F 8)))])) : ∀ (k : Nat) (i : Nat), i ≤ n → n < i + k → zW X 3 [(h, .inr (3, [.ref (a 0), .ref (a 1), .ref (a 2), .ref (a 3), .ref (a 4), .ref (a 5), .ref (a 6), .ref (a 7), .ref (a 8), .int (nI n), .int (zb ov), .int am])), (a 0, .inl (X.cI, 600, .inl (F 0))), (a 1, .inl (X.cI, 600, .inl (F 1))), (a 2, .inl (X.cI, 600, .inl (F 2))), (a 3, .inl (X.cI, 600, .inl (F 3))), (a 4, .inl (X.cI, 600, .inl (F 4))), (a 5, .inl (X.cI, 600, .inl (F 5))), (a 6, .inl (X.cI, 600, .inl (F 6))), (a 7, .inl (X.cI, 1024, .inl (F 7))), (a 8, .inl (X.cZ, 600, .inl (F 8)))] 0 0 4 [(0, .ref h), (1, .int (nI (cntN litP S.1 i))), (2, .int (nI i))] [] := by
  have hiX3 : ∀ w ∈ u_ws RX3 TX3 12, w ∈ wsX3_literalSubjects := by decide +kernel
  have hf9 : Cond.fieldLink RX3 9 "RdfsRules$Rows" "subjects" "[I" ∈ wsX3_literalSubjects := by decide +kernel
  have hf40 : Cond.fieldLink RX3 40 "RdfsRules$Rows" "size" "I" ∈ wsX3_literalSubjects := by decide +kernel
  intro k
  induction k with
  | zero =>
    intro i hi hk
    exfalso
    omega
  | succ k ih =>
    intro i hi hk
    have hn6 := hR.le
    have hcl := cntN_le litP S.1 i
    refine z_iload_n (q := 5) C 2 rfl rfl dX3_literalSubjects_4 rfl ?_
    refine z_aload_n (q := 6) C 0 rfl rfl dX3_literalSubjects_5 rfl ?_
    refine z_get (q := 9) (v := .int (nI n)) C hiX3 0 9 rfl rfl (by decide) hf40 rfl dX3_literalSubjects_6 rfl ?_
    refine z_icmp_ge_n (q := 12) (tgt := 33) C (by omega) (by omega) dX3_literalSubjects_9 (by decide) rfl (fun c9 => ?_) (fun c9 => ?_)
    · skip
      refine z_iload_n (q := 34) C 1 rfl rfl dX3_literalSubjects_33 rfl ?_
      refine z_iret C E (by omega) (by omega) dX3_literalSubjects_34 ?_
      have hin : i = n := by omega
      subst hin
      exact ⟨rfl, rfl⟩
    · skip
      have hlt : i < n := c9
      refine z_aload_n (q := 13) C 0 rfl rfl dX3_literalSubjects_12 rfl ?_
      refine z_get (q := 16) (v := .ref (a 0)) C hiX3 0 0 rfl rfl (by decide) hf9 rfl dX3_literalSubjects_13 rfl ?_
      refine z_iload_n (q := 17) C 2 rfl rfl dX3_literalSubjects_16 rfl ?_
      refine z_iald (q := 18) C 1 rfl (i := i) (by omega) (by decide) dX3_literalSubjects_17 rfl ?_
      refine z_sipush (q := 21) C k_sipush_300 dX3_literalSubjects_18 rfl ?_
      refine z_icmp_lt_i (q := 24) (tgt := 27) C rfl ti_300 dX3_literalSubjects_21 (by decide) rfl (fun c21 => ?_) (fun c21 => ?_)
      · skip
        refine z_iinc (q := 30) (v := nI (i + 1)) (lv' := [(2, .int (nI (i + 1))), (0, .ref h), (1, .int (nI (cntN litP S.1 i)))]) C 2 dX3_literalSubjects_27 rfl rfl (k_inc1 i) (by decide) rfl ?_
        refine z_goto (tgt := 4) C dX3_literalSubjects_30 (by decide) ?_
        refine z_lv [1, 2, 0] rfl ?_
        have hc : litP (S.1.getD i r0) = false := decide_eq_false (by rw [← hR.at hlt (by omega)]; omega)
        rw [← cntN_f hc]
        exact ih (i + 1) (by omega) (by omega)
      · skip
        refine z_iinc (q := 27) (v := nI (cntN litP S.1 i + 1)) (lv' := [(1, .int (nI (cntN litP S.1 i + 1))), (0, .ref h), (2, .int (nI i))]) C 1 dX3_literalSubjects_24 rfl rfl (k_inc1 (cntN litP S.1 i)) (by decide) rfl ?_
        refine z_iinc (q := 30) (v := nI (i + 1)) (lv' := [(2, .int (nI (i + 1))), (1, .int (nI (cntN litP S.1 i + 1))), (0, .ref h)]) C 2 dX3_literalSubjects_27 rfl rfl (k_inc1 i) (by decide) rfl ?_
        refine z_goto (tgt := 4) C dX3_literalSubjects_30 (by decide) ?_
        refine z_lv [2, 1, 0] rfl ?_
        have hc : litP (S.1.getD i r0) = true := decide_eq_true (by rw [← hR.at hlt (by omega)]; omega)
        rw [← cntN_t hc]
        exact ih (i + 1) (by omega) (by omega)

set_option maxHeartbeats 4000000 in
set_option maxRecDepth 100000 in
theorem c_X3_literalSubjects (l : Launch) (D : va_G) (g : ClassId × ClassId × ClassId) (h : Nat) (a : Nat → Nat) (F : Nat → Nat → Int32) (n : Nat) (ov : Bool) (am : Int32) (S : RSt)  (hR : rowsRep F n ov S) : zM l yX3_literalSubjects wsX3_literalSubjects ({ frames := 0, cells := 0, slots := 0, locals := 0 } : Room) D g [.ref h] [(h, .inr (3, [.ref (a 0), .ref (a 1), .ref (a 2), .ref (a 3), .ref (a 4), .ref (a 5), .ref (a 6), .ref (a 7), .ref (a 8), .int (nI n), .int (zb ov), .int am])), (a 0, .inl (g.1, 600, .inl (F 0))), (a 1, .inl (g.1, 600, .inl (F 1))), (a 2, .inl (g.1, 600, .inl (F 2))), (a 3, .inl (g.1, 600, .inl (F 3))), (a 4, .inl (g.1, 600, .inl (F 4))), (a 5, .inl (g.1, 600, .inl (F 5))), (a 6, .inl (g.1, 600, .inl (F 6))), (a 7, .inl (g.1, 1024, .inl (F 7))), (a 8, .inl (g.2.1, 600, .inl (F 8)))] 0 0 (fun v w1 => v = some (.int (nI (cntN litP S.1 n))) ∧ w1 = [(h, .inr (3, [.ref (a 0), .ref (a 1), .ref (a 2), .ref (a 3), .ref (a 4), .ref (a 5), .ref (a 6), .ref (a 7), .ref (a 8), .int (nI n), .int (zb ov), .int am])), (a 0, .inl (g.1, 600, .inl (F 0))), (a 1, .inl (g.1, 600, .inl (F 1))), (a 2, .inl (g.1, 600, .inl (F 2))), (a 3, .inl (g.1, 600, .inl (F 3))), (a 4, .inl (g.1, 600, .inl (F 4))), (a 5, .inl (g.1, 600, .inl (F 5))), (a 6, .inl (g.1, 600, .inl (F 6))), (a 7, .inl (g.1, 1024, .inl (F 7))), (a 8, .inl (g.2.1, 600, .inl (F 8)))]) := by
  refine z_met (cc := cX3_literalSubjects) (maxL := 3) (ret := (some .int)) (lv := [(0, .ref h)]) (by decide) rfl (Nat.le_of_ble_eq_true rfl) rfl ?_
  intro X hXD hXg hXl hnm C E
  subst hXD hXg hXl
  have C : zC X cX3_literalSubjects 3 RX3 wsX3_literalSubjects ({ frames := 0, cells := 0, slots := 0, locals := 0 } : Room) := C
  have hn6 := hR.le
  refine z_iconst (q := 1) C k_iconst_0 dX3_literalSubjects_0 rfl ?_
  refine z_istore_n (q := 2) (lv' := [(1, .int (nI 0)), (0, .ref h)]) C rfl dX3_literalSubjects_1 rfl (by decide) rfl ?_
  refine z_iconst (q := 3) C k_iconst_0 dX3_literalSubjects_2 rfl ?_
  refine z_istore_n (q := 4) (lv' := [(2, .int (nI 0)), (1, .int (nI 0)), (0, .ref h)]) C rfl dX3_literalSubjects_3 rfl (by decide) rfl ?_
  refine z_lv [2, 1, 0] rfl ?_
  exact l_X3_literalSubjects h a F n ov am S hR C E (n + 1) 0 (by omega) (by omega)

set_option maxHeartbeats 4000000 in
set_option maxRecDepth 100000 in
theorem l_X3_membershipsBeyondAxioms {X : zX} (h : Nat) (a : Nat → Nat) (F : Nat → Nat → Int32) (n : Nat) (ov : Bool)  (S : RSt) (m : Nat) (hm : m ≤ 9) (hR : rowsRep F n ov S) (C : zC X cX3_membershipsBeyondAxioms 3 RX3 wsX3_membershipsBeyondAxioms ({ frames := 0, cells := 0, slots := 0, locals := 0 } : Room)) (E : zE X (some .int) 0 0 (fun v w1 => v = some (.int (nI (cntN (memP m) S.1 n))) ∧ w1 = [(h, .inr (3, [.ref (a 0), .ref (a 1), .ref (a 2), .ref (a 3), .ref (a 4), .ref (a 5), .ref (a 6), .ref (a 7), .ref (a 8), .int (nI n), .int (zb ov), .int (nI m)])), (a 0, .inl (X.cI, 600, .inl (F 0))), (a 1, .inl (X.cI, 600, .inl (F 1))), (a 2, .inl (X.cI, 600, .inl (F 2))), (a 3, .inl (X.cI, 600, .inl (F 3))), (a 4, .inl (X.cI, 600, .inl (F 4))), (a 5, .inl (X.cI, 600, .inl (F 5))), (a 6, .inl (X.cI, 600, .inl (F 6))), (a 7, .inl (X.cI, 1024, .inl (F 7))), (a 8, .inl (X.cZ, 600, .inl (F 8)))])) : ∀ (k : Nat) (i : Nat), i ≤ n → n < i + k → zW X 3 [(h, .inr (3, [.ref (a 0), .ref (a 1), .ref (a 2), .ref (a 3), .ref (a 4), .ref (a 5), .ref (a 6), .ref (a 7), .ref (a 8), .int (nI n), .int (zb ov), .int (nI m)])), (a 0, .inl (X.cI, 600, .inl (F 0))), (a 1, .inl (X.cI, 600, .inl (F 1))), (a 2, .inl (X.cI, 600, .inl (F 2))), (a 3, .inl (X.cI, 600, .inl (F 3))), (a 4, .inl (X.cI, 600, .inl (F 4))), (a 5, .inl (X.cI, 600, .inl (F 5))), (a 6, .inl (X.cI, 600, .inl (F 6))), (a 7, .inl (X.cI, 1024, .inl (F 7))), (a 8, .inl (X.cZ, 600, .inl (F 8)))] 0 0 4 [(0, .ref h), (1, .int (nI (cntN (memP m) S.1 i))), (2, .int (nI i))] [] := by
  have hiX3 : ∀ w ∈ u_ws RX3 TX3 12, w ∈ wsX3_membershipsBeyondAxioms := by decide +kernel
  have hf15 : Cond.fieldLink RX3 15 "RdfsRules$Rows" "properties" "[I" ∈ wsX3_membershipsBeyondAxioms := by decide +kernel
  have hf40 : Cond.fieldLink RX3 40 "RdfsRules$Rows" "size" "I" ∈ wsX3_membershipsBeyondAxioms := by decide +kernel
  have hf48 : Cond.fieldLink RX3 48 "RdfsRules$Rows" "axiomMemberships" "I" ∈ wsX3_membershipsBeyondAxioms := by decide +kernel
  intro k
  induction k with
  | zero =>
    intro i hi hk
    exfalso
    omega
  | succ k ih =>
    intro i hi hk
    have hn6 := hR.le
    have hcl := cntN_le (memP m) S.1 i
    refine z_iload_n (q := 5) C 2 rfl rfl dX3_membershipsBeyondAxioms_4 rfl ?_
    refine z_aload_n (q := 6) C 0 rfl rfl dX3_membershipsBeyondAxioms_5 rfl ?_
    refine z_get (q := 9) (v := .int (nI n)) C hiX3 0 9 rfl rfl (by decide) hf40 rfl dX3_membershipsBeyondAxioms_6 rfl ?_
    refine z_icmp_ge_n (q := 12) (tgt := 48) C (by omega) (by omega) dX3_membershipsBeyondAxioms_9 (by decide) rfl (fun c9 => ?_) (fun c9 => ?_)
    · skip
      refine z_iload_n (q := 49) C 1 rfl rfl dX3_membershipsBeyondAxioms_48 rfl ?_
      refine z_iret C E (by omega) (by omega) dX3_membershipsBeyondAxioms_49 ?_
      have hin : i = n := by omega
      subst hin
      exact ⟨rfl, rfl⟩
    · skip
      have hlt : i < n := c9
      refine z_aload_n (q := 13) C 0 rfl rfl dX3_membershipsBeyondAxioms_12 rfl ?_
      refine z_get (q := 16) (v := .ref (a 1)) C hiX3 0 1 rfl rfl (by decide) hf15 rfl dX3_membershipsBeyondAxioms_13 rfl ?_
      refine z_iload_n (q := 17) C 2 rfl rfl dX3_membershipsBeyondAxioms_16 rfl ?_
      refine z_iald (q := 18) C 2 rfl (i := i) (by omega) (by decide) dX3_membershipsBeyondAxioms_17 rfl ?_
      refine z_bipush (q := 20) C k_bipush_20 dX3_membershipsBeyondAxioms_18 rfl ?_
      refine z_aload_n (q := 21) C 0 rfl rfl dX3_membershipsBeyondAxioms_20 rfl ?_
      refine z_get (q := 24) (v := .int (nI m)) C hiX3 0 11 rfl rfl (by decide) hf48 rfl dX3_membershipsBeyondAxioms_21 rfl ?_
      refine z_iadd (q := 25) C dX3_membershipsBeyondAxioms_24 rfl ?_
      refine z_eqi (y := nI (20 + m)) (nI_add 20 m) ?_
      refine z_icmp_lt_i (q := 28) (tgt := 42) C rfl (nI_toInt (n := 20 + m) (by omega)) dX3_membershipsBeyondAxioms_25 (by decide) rfl (fun c25 => ?_) (fun c25 => ?_)
      · skip
        refine z_iinc (q := 45) (v := nI (i + 1)) (lv' := [(2, .int (nI (i + 1))), (0, .ref h), (1, .int (nI (cntN (memP m) S.1 i)))]) C 2 dX3_membershipsBeyondAxioms_42 rfl rfl (k_inc1 i) (by decide) rfl ?_
        refine z_goto (tgt := 4) C dX3_membershipsBeyondAxioms_45 (by decide) ?_
        refine z_lv [1, 2, 0] rfl ?_
        have hc : (memP m) (S.1.getD i r0) = false := decide_eq_false (by rw [← hR.at hlt (by omega)]; omega)
        rw [← cntN_f hc]
        exact ih (i + 1) (by omega) (by omega)
      · skip
        refine z_aload_n (q := 29) C 0 rfl rfl dX3_membershipsBeyondAxioms_28 rfl ?_
        refine z_get (q := 32) (v := .ref (a 1)) C hiX3 0 1 rfl rfl (by decide) hf15 rfl dX3_membershipsBeyondAxioms_29 rfl ?_
        refine z_iload_n (q := 33) C 2 rfl rfl dX3_membershipsBeyondAxioms_32 rfl ?_
        refine z_iald (q := 34) C 2 rfl (i := i) (by omega) (by decide) dX3_membershipsBeyondAxioms_33 rfl ?_
        refine z_bipush (q := 36) C k_bipush_29 dX3_membershipsBeyondAxioms_34 rfl ?_
        refine z_icmp_ge_i (q := 39) (tgt := 42) C rfl ti_29 dX3_membershipsBeyondAxioms_36 (by decide) rfl (fun c36 => ?_) (fun c36 => ?_)
        · skip
          refine z_iinc (q := 45) (v := nI (i + 1)) (lv' := [(2, .int (nI (i + 1))), (0, .ref h), (1, .int (nI (cntN (memP m) S.1 i)))]) C 2 dX3_membershipsBeyondAxioms_42 rfl rfl (k_inc1 i) (by decide) rfl ?_
          refine z_goto (tgt := 4) C dX3_membershipsBeyondAxioms_45 (by decide) ?_
          refine z_lv [1, 2, 0] rfl ?_
          have hc : (memP m) (S.1.getD i r0) = false := decide_eq_false (by rw [← hR.at hlt (by omega)]; omega)
          rw [← cntN_f hc]
          exact ih (i + 1) (by omega) (by omega)
        · skip
          refine z_iinc (q := 42) (v := nI (cntN (memP m) S.1 i + 1)) (lv' := [(1, .int (nI (cntN (memP m) S.1 i + 1))), (0, .ref h), (2, .int (nI i))]) C 1 dX3_membershipsBeyondAxioms_39 rfl rfl (k_inc1 (cntN (memP m) S.1 i)) (by decide) rfl ?_
          refine z_iinc (q := 45) (v := nI (i + 1)) (lv' := [(2, .int (nI (i + 1))), (1, .int (nI (cntN (memP m) S.1 i + 1))), (0, .ref h)]) C 2 dX3_membershipsBeyondAxioms_42 rfl rfl (k_inc1 i) (by decide) rfl ?_
          refine z_goto (tgt := 4) C dX3_membershipsBeyondAxioms_45 (by decide) ?_
          refine z_lv [2, 1, 0] rfl ?_
          have hc : (memP m) (S.1.getD i r0) = true := decide_eq_true (by rw [← hR.at hlt (by omega)]; omega)
          rw [← cntN_t hc]
          exact ih (i + 1) (by omega) (by omega)

set_option maxHeartbeats 4000000 in
set_option maxRecDepth 100000 in
theorem c_X3_membershipsBeyondAxioms (l : Launch) (D : va_G) (g : ClassId × ClassId × ClassId) (h : Nat) (a : Nat → Nat) (F : Nat → Nat → Int32) (n : Nat) (ov : Bool)  (S : RSt) (m : Nat) (hm : m ≤ 9) (hR : rowsRep F n ov S) : zM l yX3_membershipsBeyondAxioms wsX3_membershipsBeyondAxioms ({ frames := 0, cells := 0, slots := 0, locals := 0 } : Room) D g [.ref h] [(h, .inr (3, [.ref (a 0), .ref (a 1), .ref (a 2), .ref (a 3), .ref (a 4), .ref (a 5), .ref (a 6), .ref (a 7), .ref (a 8), .int (nI n), .int (zb ov), .int (nI m)])), (a 0, .inl (g.1, 600, .inl (F 0))), (a 1, .inl (g.1, 600, .inl (F 1))), (a 2, .inl (g.1, 600, .inl (F 2))), (a 3, .inl (g.1, 600, .inl (F 3))), (a 4, .inl (g.1, 600, .inl (F 4))), (a 5, .inl (g.1, 600, .inl (F 5))), (a 6, .inl (g.1, 600, .inl (F 6))), (a 7, .inl (g.1, 1024, .inl (F 7))), (a 8, .inl (g.2.1, 600, .inl (F 8)))] 0 0 (fun v w1 => v = some (.int (nI (cntN (memP m) S.1 n))) ∧ w1 = [(h, .inr (3, [.ref (a 0), .ref (a 1), .ref (a 2), .ref (a 3), .ref (a 4), .ref (a 5), .ref (a 6), .ref (a 7), .ref (a 8), .int (nI n), .int (zb ov), .int (nI m)])), (a 0, .inl (g.1, 600, .inl (F 0))), (a 1, .inl (g.1, 600, .inl (F 1))), (a 2, .inl (g.1, 600, .inl (F 2))), (a 3, .inl (g.1, 600, .inl (F 3))), (a 4, .inl (g.1, 600, .inl (F 4))), (a 5, .inl (g.1, 600, .inl (F 5))), (a 6, .inl (g.1, 600, .inl (F 6))), (a 7, .inl (g.1, 1024, .inl (F 7))), (a 8, .inl (g.2.1, 600, .inl (F 8)))]) := by
  refine z_met (cc := cX3_membershipsBeyondAxioms) (maxL := 3) (ret := (some .int)) (lv := [(0, .ref h)]) (by decide) rfl (Nat.le_of_ble_eq_true rfl) rfl ?_
  intro X hXD hXg hXl hnm C E
  subst hXD hXg hXl
  have C : zC X cX3_membershipsBeyondAxioms 3 RX3 wsX3_membershipsBeyondAxioms ({ frames := 0, cells := 0, slots := 0, locals := 0 } : Room) := C
  have hn6 := hR.le
  refine z_iconst (q := 1) C k_iconst_0 dX3_membershipsBeyondAxioms_0 rfl ?_
  refine z_istore_n (q := 2) (lv' := [(1, .int (nI 0)), (0, .ref h)]) C rfl dX3_membershipsBeyondAxioms_1 rfl (by decide) rfl ?_
  refine z_iconst (q := 3) C k_iconst_0 dX3_membershipsBeyondAxioms_2 rfl ?_
  refine z_istore_n (q := 4) (lv' := [(2, .int (nI 0)), (1, .int (nI 0)), (0, .ref h)]) C rfl dX3_membershipsBeyondAxioms_3 rfl (by decide) rfl ?_
  refine z_lv [2, 1, 0] rfl ?_
  exact l_X3_membershipsBeyondAxioms h a F n ov S m hm hR C E (n + 1) 0 (by omega) (by omega)
