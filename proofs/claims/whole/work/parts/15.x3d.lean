/-! marks: what a row rests on -/
def refOK (L : List Row) : Prop := ∀ i j, i < L.length → (j = 4 ∨ j = 5) → L.getD i r0 j = (-1) ∨ ∃ m, m < i ∧ L.getD i r0 j = nI m
def mk1 (x : Int32) (M : Nat → Bool) : Nat → Bool := fun q => M q || (decide (¬ x = (-1)) && decide (x = nI q))
def mkStep (L : List Row) (M : Nat → Bool) (k : Nat) : Nat → Bool := if M k = true then mk1 (L.getD k r0 5) (mk1 (L.getD k r0 4) M) else M
def mkDown (L : List Row) : Nat → (Nat → Bool) → Nat → Bool
  | 0, M => M
  | k + 1, M => mkDown L k (mkStep L M k)
def marksL (L : List Row) (i : Nat) : Nat → Bool := mkDown L (i + 1) (fun q => decide (q = i))
theorem mk1_row {M : Nat → Bool} {j q : Nat} (hj : j < 2 ^ 31) (hq : q < 2 ^ 31) : mk1 (nI j) M q = if q = j then true else M q := by
  unfold mk1
  have h1 : decide (¬ nI j = (-1)) = true := decide_eq_true (nI_nm1 hj)
  rw [h1, Bool.true_and]
  by_cases h : q = j
  · rw [if_pos h, h, decide_eq_true rfl, Bool.or_true]
  · rw [if_neg h, decide_eq_false (fun e => h ((nI_eq hq hj).mp e.symm)), Bool.or_false]
theorem mk1_none {M : Nat → Bool} {q : Nat} : mk1 (-1) M q = M q := by
  unfold mk1
  rw [decide_eq_false (fun h => h rfl), Bool.false_and, Bool.or_false]
/-- the arrays with another array of marks -/
def setF8 (F : Nat → Nat → Int32) (f : Nat → Int32) : Nat → Nat → Int32 := fun k => match k with
  | 8 => f
  | m => F m
theorem rowsRep.set8 {F : Nat → Nat → Int32} {n : Nat} {ov : Bool} {S : RSt} (h : rowsRep F n ov S) (f : Nat → Int32) : rowsRep (setF8 F f) n ov S := by
  obtain ⟨h1, h2, h3, h4, h5, h6⟩ := h
  refine ⟨h1, h2, h3, h4, fun i j hi hj => ?_, h6⟩
  rw [← h5 i j hi hj]
  match j, hj with
  | 0, _ => rfl
  | 1, _ => rfl
  | 2, _ => rfl
  | 3, _ => rfl
  | 4, _ => rfl
  | 5, _ => rfl
  | 6, _ => rfl

set_option maxHeartbeats 4000000 in
set_option maxRecDepth 100000 in
theorem c_X3_markIfRow (l : Launch) (D : va_G) (g : ClassId × ClassId × ClassId) (h : Nat) (a : Nat → Nat) (n : Nat) (ov : Bool) (am : Int32) (f8 : Nat → Int32) (M : Nat → Bool) (i : Nat) (hi : i < 600) (hM : ∀ q, q ≤ i → f8 q = zb (M q)) (x : Int32) (hx : x = (-1) ∨ ∃ j, j < 600 ∧ x = nI j) : zM l yX3_markIfRow wsX3_markIfRow ({ frames := 0, cells := 0, slots := 0, locals := 0 } : Room) D g [.ref h, .int x] [(h, .inr (3, [.ref (a 0), .ref (a 1), .ref (a 2), .ref (a 3), .ref (a 4), .ref (a 5), .ref (a 6), .ref (a 7), .ref (a 8), .int (nI n), .int (zb ov), .int am])), (a 8, .inl (g.2.1, 600, .inl f8))] 0 0 (fun v w1 => ∃ f1 : Nat → Int32, (∀ q, q ≤ i → f1 q = zb (mk1 x M q)) ∧ v = none ∧ w1 = [(h, .inr (3, [.ref (a 0), .ref (a 1), .ref (a 2), .ref (a 3), .ref (a 4), .ref (a 5), .ref (a 6), .ref (a 7), .ref (a 8), .int (nI n), .int (zb ov), .int am])), (a 8, .inl (g.2.1, 600, .inl f1))]) := by
  refine z_met (cc := cX3_markIfRow) (maxL := 2) (ret := none) (lv := [(0, .ref h), (1, .int x)]) (by decide) rfl (Nat.le_of_ble_eq_true rfl) rfl ?_
  intro X hXD hXg hXl hnm C E
  subst hXD hXg hXl
  have C : zC X cX3_markIfRow 2 RX3 wsX3_markIfRow ({ frames := 0, cells := 0, slots := 0, locals := 0 } : Room) := C
  have hiX3 : ∀ w ∈ u_ws RX3 TX3 12, w ∈ wsX3_markIfRow := by decide +kernel
  have hf36 : Cond.fieldLink RX3 36 "RdfsRules$Rows" "rests" "[Z" ∈ wsX3_markIfRow := by decide +kernel
  refine z_iload_n (q := 1) C 1 rfl rfl dX3_markIfRow_0 rfl ?_
  refine z_iconst (q := 2) C k_iconst_m1 dX3_markIfRow_1 rfl ?_
  refine z_icmp_eq (q := 5) (tgt := 12) C dX3_markIfRow_2 (by decide) rfl (fun c2 => ?_) (fun c2 => ?_)
  · skip
    refine z_vret C E (by omega) (by omega) dX3_markIfRow_12 ?_
    subst c2
    exact ⟨f8, fun q hq => by rw [mk1_none]; exact hM q hq, rfl, rfl⟩
  · skip
    obtain ⟨j, hj, ej⟩ := hx.resolve_left c2
    subst ej
    refine z_aload_n (q := 6) C 0 rfl rfl dX3_markIfRow_5 rfl ?_
    refine z_get (q := 9) (v := .ref (a 8)) C hiX3 0 8 rfl rfl (by decide) hf36 rfl dX3_markIfRow_6 rfl ?_
    refine z_iload_n (q := 10) C 1 rfl rfl dX3_markIfRow_9 rfl ?_
    refine z_iconst (q := 11) C k_iconst_1 dX3_markIfRow_10 rfl ?_
    refine z_zast (q := 12) (ws' := [(h, .inr (3, [.ref (a 0), .ref (a 1), .ref (a 2), .ref (a 3), .ref (a 4), .ref (a 5), .ref (a 6), .ref (a 7), .ref (a 8), .int (nI n), .int (zb ov), .int am])), (a 8, .inl (X.cZ, 600, .inl (upd f8 j (nI 1))))]) C 1 rfl (i := j) (by decide) (by omega) (by decide) dX3_markIfRow_11 rfl rfl ?_
    refine z_vret C E (by omega) (by omega) dX3_markIfRow_12 ?_
    exact ⟨upd f8 j (nI 1), fun q hq => by rw [mk1_row (by omega) (by omega)]; show (if q = j then nI 1 else f8 q) = _; split; rfl; exact hM q hq, rfl, rfl⟩

set_option maxHeartbeats 4000000 in
set_option maxRecDepth 100000 in
theorem l_X3_markRest2 {X : zX} (h : Nat) (a : Nat → Nat) (F : Nat → Nat → Int32) (n : Nat) (ov : Bool) (am : Int32) (S : RSt) (hR : rowsRep F n ov S) (i : Nat) (hi : i < n) (hK : refOK S.1) (C : zC X cX3_markRest 3 RX3 wsX3_markRest ({ frames := 1, cells := 0, slots := 0, locals := 21 } : Room)) (E : zE X none 0 0 (fun v w1 => ∃ f1 : Nat → Int32, (∀ q, q ≤ i → f1 q = zb (marksL S.1 i q)) ∧ v = none ∧ w1 = [(h, .inr (3, [.ref (a 0), .ref (a 1), .ref (a 2), .ref (a 3), .ref (a 4), .ref (a 5), .ref (a 6), .ref (a 7), .ref (a 8), .int (nI n), .int (zb ov), .int am])), (a 0, .inl (X.cI, 600, .inl (F 0))), (a 1, .inl (X.cI, 600, .inl (F 1))), (a 2, .inl (X.cI, 600, .inl (F 2))), (a 3, .inl (X.cI, 600, .inl (F 3))), (a 4, .inl (X.cI, 600, .inl (F 4))), (a 5, .inl (X.cI, 600, .inl (F 5))), (a 6, .inl (X.cI, 600, .inl (F 6))), (a 7, .inl (X.cI, 1024, .inl (F 7))), (a 8, .inl (X.cZ, 600, .inl f1))])) : ∀ (t k0 : Nat) (f8 : Nat → Int32) (M : Nat → Bool), k0 ≤ i + 1 ∧ k0 < t → (∀ q, q ≤ i → f8 q = zb (M q)) → mkDown S.1 k0 M = marksL S.1 i → zW X 3 [(h, .inr (3, [.ref (a 0), .ref (a 1), .ref (a 2), .ref (a 3), .ref (a 4), .ref (a 5), .ref (a 6), .ref (a 7), .ref (a 8), .int (nI n), .int (zb ov), .int am])), (a 0, .inl (X.cI, 600, .inl (F 0))), (a 1, .inl (X.cI, 600, .inl (F 1))), (a 2, .inl (X.cI, 600, .inl (F 2))), (a 3, .inl (X.cI, 600, .inl (F 3))), (a 4, .inl (X.cI, 600, .inl (F 4))), (a 5, .inl (X.cI, 600, .inl (F 5))), (a 6, .inl (X.cI, 600, .inl (F 6))), (a 7, .inl (X.cI, 1024, .inl (F 7))), (a 8, .inl (X.cZ, 600, .inl f8))] 0 0 31 [(0, .ref h), (1, .int (nI i)), (2, .int (nI k0 + (-1)))] [] := by
  have hiX3 : ∀ w ∈ u_ws RX3 TX3 12, w ∈ wsX3_markRest := by decide +kernel
  have hf24 : Cond.fieldLink RX3 24 "RdfsRules$Rows" "firsts" "[I" ∈ wsX3_markRest := by decide +kernel
  have hf27 : Cond.fieldLink RX3 27 "RdfsRules$Rows" "seconds" "[I" ∈ wsX3_markRest := by decide +kernel
  have hf36 : Cond.fieldLink RX3 36 "RdfsRules$Rows" "rests" "[Z" ∈ wsX3_markRest := by decide +kernel
  intro t
  induction t with
  | zero =>
    intro k0 f8 M hk hM hfin
    omega
  | succ t ih =>
    intro k0 f8 M hk hM hfin
    have hn6 := hR.le
    cases k0 with
    | zero =>
      rw [show nI 0 + (-1) = (-1 : Int32) by decide]
      refine z_iload_n (q := 32) C 2 rfl rfl dX3_markRest_31 rfl ?_
      refine z_if_lt_i (q := 35) (tgt := 70) C ti_m1 dX3_markRest_32 (by decide) rfl (fun c32 => ?_) (fun c32 => ?_)
      · skip
        refine z_vret C E (by omega) (by omega) dX3_markRest_70 ?_
        exact ⟨f8, fun q hq => by rw [hM q hq, ← hfin]; rfl, rfl, rfl⟩
      · skip
        exact absurd c32 (by decide)
    | succ k =>
      rw [pk_m1 k]
      refine z_iload_n (q := 32) C 2 rfl rfl dX3_markRest_31 rfl ?_
      refine z_if_lt_n (q := 35) (tgt := 70) C (by omega) dX3_markRest_32 (by decide) rfl (fun c32 => ?_) (fun c32 => ?_)
      · skip
        exact c32.elim
      · skip
        refine z_aload_n (q := 36) C 0 rfl rfl dX3_markRest_35 rfl ?_
        refine z_get (q := 39) (v := .ref (a 8)) C hiX3 0 8 rfl rfl (by decide) hf36 rfl dX3_markRest_36 rfl ?_
        refine z_iload_n (q := 40) C 2 rfl rfl dX3_markRest_39 rfl ?_
        refine z_zald (q := 41) C 9 rfl (i := k) (by omega) (by decide) dX3_markRest_40 rfl ?_
        refine z_if_eq_z (q := 44) (tgt := 64) C dX3_markRest_41 (by decide) rfl (fun c41 => ?_) (fun c41 => ?_)
        · skip
          refine z_iinc (q := 67) (v := (nI k) + (-1)) (lv' := [(2, .int ((nI k) + (-1))), (0, .ref h), (1, .int (nI i))]) C 2 dX3_markRest_64 rfl rfl rfl (by decide) rfl ?_
          refine z_goto (tgt := 31) C dX3_markRest_67 (by decide) ?_
          refine z_lv [1, 2, 0] rfl ?_
          have hmk : M k = false := zb_0.mp (by rw [← hM k (by omega)]; exact c41)
          exact ih k f8 M (by omega) hM (by rw [← hfin]; show mkDown S.1 k _ = mkDown S.1 k (mkStep S.1 M k); unfold mkStep; rw [if_neg (by rw [hmk]; decide)])
        · skip
          refine z_aload_n (q := 45) C 0 rfl rfl dX3_markRest_44 rfl ?_
          refine z_aload_n (q := 46) C 0 rfl rfl dX3_markRest_45 rfl ?_
          refine z_get (q := 49) (v := .ref (a 4)) C hiX3 0 4 rfl rfl (by decide) hf24 rfl dX3_markRest_46 rfl ?_
          refine z_iload_n (q := 50) C 2 rfl rfl dX3_markRest_49 rfl ?_
          refine z_iald (q := 51) C 5 rfl (i := k) (by omega) (by decide) dX3_markRest_50 rfl ?_
          refine z_callV (q := 54) (n := 1) (As := [.int ((F 4) k)]) (rest := []) (wr := [(a 0, .inl (X.cI, 600, .inl (F 0))), (a 1, .inl (X.cI, 600, .inl (F 1))), (a 2, .inl (X.cI, 600, .inl (F 2))), (a 3, .inl (X.cI, 600, .inl (F 3))), (a 4, .inl (X.cI, 600, .inl (F 4))), (a 5, .inl (X.cI, 600, .inl (F 5))), (a 6, .inl (X.cI, 600, .inl (F 6))), (a 7, .inl (X.cI, 1024, .inl (F 7)))]) C (c_X3_markIfRow X.l X.D X.2.1 h a n ov am f8 (M) i (by omega) hM (F 4 k) (by rw [hR.at (j := 4) (by omega) (by omega)]; exact (hK k 4 (by rw [hR.1]; omega) (by omega)).imp id (fun ⟨m, h1, h2⟩ => ⟨m, by omega, h2⟩))) gX3_markRest_X3_markIfRow rfl rfl rfl (by decide +kernel) (by decide) ⟨by first | decide | omega, by first | decide | omega⟩ 0 3 rfl rfl [0, 9] [1, 2, 3, 4, 5, 6, 7, 8] rfl rfl (by decide) (by decide) (by decide) rfl rfl (Nat.le_of_ble_eq_true rfl) dX3_markRest_51 rfl (fun v w1 hp => ?_)
          obtain ⟨f9, hf9, rfl, rfl⟩ := hp
          show zW X 3 [(a 0, .inl (X.cI, 600, .inl (F 0))), (a 1, .inl (X.cI, 600, .inl (F 1))), (a 2, .inl (X.cI, 600, .inl (F 2))), (a 3, .inl (X.cI, 600, .inl (F 3))), (a 4, .inl (X.cI, 600, .inl (F 4))), (a 5, .inl (X.cI, 600, .inl (F 5))), (a 6, .inl (X.cI, 600, .inl (F 6))), (a 7, .inl (X.cI, 1024, .inl (F 7))), (h, .inr (3, [.ref (a 0), .ref (a 1), .ref (a 2), .ref (a 3), .ref (a 4), .ref (a 5), .ref (a 6), .ref (a 7), .ref (a 8), .int (nI n), .int (zb ov), .int am])), (a 8, .inl (X.cZ, 600, .inl f9))] _ _ 54 _ []
          refine z_aload_n (q := 55) C 0 rfl rfl dX3_markRest_54 rfl ?_
          refine z_aload_n (q := 56) C 0 rfl rfl dX3_markRest_55 rfl ?_
          refine z_get (q := 59) (v := .ref (a 5)) C hiX3 8 5 rfl rfl (by decide) hf27 rfl dX3_markRest_56 rfl ?_
          refine z_iload_n (q := 60) C 2 rfl rfl dX3_markRest_59 rfl ?_
          refine z_iald (q := 61) C 5 rfl (i := k) (by omega) (by decide) dX3_markRest_60 rfl ?_
          refine z_callV (q := 64) (n := 1) (As := [.int ((F 5) k)]) (rest := []) (wr := [(a 0, .inl (X.cI, 600, .inl (F 0))), (a 1, .inl (X.cI, 600, .inl (F 1))), (a 2, .inl (X.cI, 600, .inl (F 2))), (a 3, .inl (X.cI, 600, .inl (F 3))), (a 4, .inl (X.cI, 600, .inl (F 4))), (a 5, .inl (X.cI, 600, .inl (F 5))), (a 6, .inl (X.cI, 600, .inl (F 6))), (a 7, .inl (X.cI, 1024, .inl (F 7)))]) C (c_X3_markIfRow X.l X.D X.2.1 h a n ov am f9 (mk1 (F 4 k) M) i (by omega) hf9 (F 5 k) (by rw [hR.at (j := 5) (by omega) (by omega)]; exact (hK k 5 (by rw [hR.1]; omega) (by omega)).imp id (fun ⟨m, h1, h2⟩ => ⟨m, by omega, h2⟩))) gX3_markRest_X3_markIfRow rfl rfl rfl (by decide +kernel) (by decide) ⟨by first | decide | omega, by first | decide | omega⟩ 0 3 rfl rfl [8, 9] [0, 1, 2, 3, 4, 5, 6, 7] rfl rfl (by decide) (by decide) (by decide) rfl rfl (Nat.le_of_ble_eq_true rfl) dX3_markRest_61 rfl (fun v w1 hp => ?_)
          obtain ⟨f10, hf10, rfl, rfl⟩ := hp
          show zW X 3 [(a 0, .inl (X.cI, 600, .inl (F 0))), (a 1, .inl (X.cI, 600, .inl (F 1))), (a 2, .inl (X.cI, 600, .inl (F 2))), (a 3, .inl (X.cI, 600, .inl (F 3))), (a 4, .inl (X.cI, 600, .inl (F 4))), (a 5, .inl (X.cI, 600, .inl (F 5))), (a 6, .inl (X.cI, 600, .inl (F 6))), (a 7, .inl (X.cI, 1024, .inl (F 7))), (h, .inr (3, [.ref (a 0), .ref (a 1), .ref (a 2), .ref (a 3), .ref (a 4), .ref (a 5), .ref (a 6), .ref (a 7), .ref (a 8), .int (nI n), .int (zb ov), .int am])), (a 8, .inl (X.cZ, 600, .inl f10))] _ _ 64 _ []
          refine z_iinc (q := 67) (v := (nI k) + (-1)) (lv' := [(2, .int ((nI k) + (-1))), (0, .ref h), (1, .int (nI i))]) C 2 dX3_markRest_64 rfl rfl rfl (by decide) rfl ?_
          refine z_goto (tgt := 31) C dX3_markRest_67 (by decide) ?_
          refine z_lv [1, 2, 0] rfl ?_
          refine z_ws (ws' := [(h, .inr (3, [.ref (a 0), .ref (a 1), .ref (a 2), .ref (a 3), .ref (a 4), .ref (a 5), .ref (a 6), .ref (a 7), .ref (a 8), .int (nI n), .int (zb ov), .int am])), (a 0, .inl (X.cI, 600, .inl (F 0))), (a 1, .inl (X.cI, 600, .inl (F 1))), (a 2, .inl (X.cI, 600, .inl (F 2))), (a 3, .inl (X.cI, 600, .inl (F 3))), (a 4, .inl (X.cI, 600, .inl (F 4))), (a 5, .inl (X.cI, 600, .inl (F 5))), (a 6, .inl (X.cI, 600, .inl (F 6))), (a 7, .inl (X.cI, 1024, .inl (F 7))), (a 8, .inl (X.cZ, 600, .inl f10))]) [8, 0, 1, 2, 3, 4, 5, 6, 7, 9] (by decide) rfl ?_
          exact ih k f10 (mk1 (F 5 k) (mk1 (F 4 k) M)) (by omega) hf10 (by rw [← hfin]; show mkDown S.1 k _ = mkDown S.1 k (mkStep S.1 M k); unfold mkStep; rw [if_pos (zb_n0.mp (by rw [← hM k (by omega)]; exact c41)), hR.at (j := 5) (by omega) (by omega), hR.at (j := 4) (by omega) (by omega)])

set_option maxHeartbeats 4000000 in
set_option maxRecDepth 100000 in
theorem l_X3_markRest {X : zX} (h : Nat) (a : Nat → Nat) (F : Nat → Nat → Int32) (n : Nat) (ov : Bool) (am : Int32) (S : RSt) (hR : rowsRep F n ov S) (i : Nat) (hi : i < n) (hK : refOK S.1) (C : zC X cX3_markRest 3 RX3 wsX3_markRest ({ frames := 1, cells := 0, slots := 0, locals := 21 } : Room)) (E : zE X none 0 0 (fun v w1 => ∃ f1 : Nat → Int32, (∀ q, q ≤ i → f1 q = zb (marksL S.1 i q)) ∧ v = none ∧ w1 = [(h, .inr (3, [.ref (a 0), .ref (a 1), .ref (a 2), .ref (a 3), .ref (a 4), .ref (a 5), .ref (a 6), .ref (a 7), .ref (a 8), .int (nI n), .int (zb ov), .int am])), (a 0, .inl (X.cI, 600, .inl (F 0))), (a 1, .inl (X.cI, 600, .inl (F 1))), (a 2, .inl (X.cI, 600, .inl (F 2))), (a 3, .inl (X.cI, 600, .inl (F 3))), (a 4, .inl (X.cI, 600, .inl (F 4))), (a 5, .inl (X.cI, 600, .inl (F 5))), (a 6, .inl (X.cI, 600, .inl (F 6))), (a 7, .inl (X.cI, 1024, .inl (F 7))), (a 8, .inl (X.cZ, 600, .inl f1))])) : ∀ (k : Nat) (r : Nat) (f8 : Nat → Int32), r ≤ i + 1 → i + 1 < r + k → (∀ q, q < r → f8 q = zb (decide (q = i))) → zW X 3 [(h, .inr (3, [.ref (a 0), .ref (a 1), .ref (a 2), .ref (a 3), .ref (a 4), .ref (a 5), .ref (a 6), .ref (a 7), .ref (a 8), .int (nI n), .int (zb ov), .int am])), (a 0, .inl (X.cI, 600, .inl (F 0))), (a 1, .inl (X.cI, 600, .inl (F 1))), (a 2, .inl (X.cI, 600, .inl (F 2))), (a 3, .inl (X.cI, 600, .inl (F 3))), (a 4, .inl (X.cI, 600, .inl (F 4))), (a 5, .inl (X.cI, 600, .inl (F 5))), (a 6, .inl (X.cI, 600, .inl (F 6))), (a 7, .inl (X.cI, 1024, .inl (F 7))), (a 8, .inl (X.cZ, 600, .inl f8))] 0 0 2 [(0, .ref h), (1, .int (nI i)), (2, .int (nI r))] [] := by
  have hiX3 : ∀ w ∈ u_ws RX3 TX3 12, w ∈ wsX3_markRest := by decide +kernel
  have hf36 : Cond.fieldLink RX3 36 "RdfsRules$Rows" "rests" "[Z" ∈ wsX3_markRest := by decide +kernel
  intro k
  induction k with
  | zero =>
    intro r f8 hr hk hM
    exfalso
    omega
  | succ k ih =>
    intro r f8 hr hk hM
    have hn6 := hR.le
    refine z_iload_n (q := 3) C 2 rfl rfl dX3_markRest_2 rfl ?_
    refine z_iload_n (q := 4) C 1 rfl rfl dX3_markRest_3 rfl ?_
    refine z_icmp_gt_n (q := 7) (tgt := 29) C (by omega) (by omega) dX3_markRest_4 (by decide) rfl (fun c4 => ?_) (fun c4 => ?_)
    · skip
      refine z_iload_n (q := 30) C 1 rfl rfl dX3_markRest_29 rfl ?_
      refine z_istore_n (q := 31) (lv' := [(2, .int (nI i)), (0, .ref h), (1, .int (nI i))]) C rfl dX3_markRest_30 rfl (by decide) rfl ?_
      refine z_lv [1, 2, 0] rfl ?_
      have key := l_X3_markRest2 h a F n ov am S hR i hi hK C E (i + 2) (i + 1) f8 (fun q => decide (q = i)) (by omega) (fun q hq => hM q (by omega)) rfl
      rw [pk_m1 i] at key
      exact key
    · skip
      refine z_aload_n (q := 8) C 0 rfl rfl dX3_markRest_7 rfl ?_
      refine z_get (q := 11) (v := .ref (a 8)) C hiX3 0 8 rfl rfl (by decide) hf36 rfl dX3_markRest_8 rfl ?_
      refine z_iload_n (q := 12) C 2 rfl rfl dX3_markRest_11 rfl ?_
      refine z_iload_n (q := 13) C 2 rfl rfl dX3_markRest_12 rfl ?_
      refine z_iload_n (q := 14) C 1 rfl rfl dX3_markRest_13 rfl ?_
      refine z_icmp_ne_n (q := 17) (tgt := 21) C (by omega) (by omega) dX3_markRest_14 (by decide) rfl (fun c14 => ?_) (fun c14 => ?_)
      · skip
        refine z_iconst (q := 22) C k_iconst_0 dX3_markRest_21 rfl ?_
        refine z_zast (q := 23) (ws' := [(h, .inr (3, [.ref (a 0), .ref (a 1), .ref (a 2), .ref (a 3), .ref (a 4), .ref (a 5), .ref (a 6), .ref (a 7), .ref (a 8), .int (nI n), .int (zb ov), .int am])), (a 0, .inl (X.cI, 600, .inl (F 0))), (a 1, .inl (X.cI, 600, .inl (F 1))), (a 2, .inl (X.cI, 600, .inl (F 2))), (a 3, .inl (X.cI, 600, .inl (F 3))), (a 4, .inl (X.cI, 600, .inl (F 4))), (a 5, .inl (X.cI, 600, .inl (F 5))), (a 6, .inl (X.cI, 600, .inl (F 6))), (a 7, .inl (X.cI, 1024, .inl (F 7))), (a 8, .inl (X.cZ, 600, .inl (upd f8 r (nI 0))))]) C 9 rfl (i := r) (by decide) (by omega) (by decide) dX3_markRest_22 rfl rfl ?_
        refine z_iinc (q := 26) (v := nI (r + 1)) (lv' := [(2, .int (nI (r + 1))), (0, .ref h), (1, .int (nI i))]) C 2 dX3_markRest_23 rfl rfl (k_inc1 r) (by decide) rfl ?_
        refine z_goto (tgt := 2) C dX3_markRest_26 (by decide) ?_
        refine z_lv [1, 2, 0] rfl ?_
        exact ih (r + 1) _ (by omega) (by omega) (fun q hq => by show (if q = r then nI 0 else f8 q) = _; split; subst_vars; exact zb_is0 (decide_eq_false (by omega)); exact hM q (by omega))
      · skip
        refine z_iconst (q := 18) C k_iconst_1 dX3_markRest_17 rfl ?_
        refine z_goto (tgt := 22) C dX3_markRest_18 (by decide) ?_
        refine z_zast (q := 23) (ws' := [(h, .inr (3, [.ref (a 0), .ref (a 1), .ref (a 2), .ref (a 3), .ref (a 4), .ref (a 5), .ref (a 6), .ref (a 7), .ref (a 8), .int (nI n), .int (zb ov), .int am])), (a 0, .inl (X.cI, 600, .inl (F 0))), (a 1, .inl (X.cI, 600, .inl (F 1))), (a 2, .inl (X.cI, 600, .inl (F 2))), (a 3, .inl (X.cI, 600, .inl (F 3))), (a 4, .inl (X.cI, 600, .inl (F 4))), (a 5, .inl (X.cI, 600, .inl (F 5))), (a 6, .inl (X.cI, 600, .inl (F 6))), (a 7, .inl (X.cI, 1024, .inl (F 7))), (a 8, .inl (X.cZ, 600, .inl (upd f8 r (nI 1))))]) C 9 rfl (i := r) (by decide) (by omega) (by decide) dX3_markRest_22 rfl rfl ?_
        refine z_iinc (q := 26) (v := nI (r + 1)) (lv' := [(2, .int (nI (r + 1))), (0, .ref h), (1, .int (nI i))]) C 2 dX3_markRest_23 rfl rfl (k_inc1 r) (by decide) rfl ?_
        refine z_goto (tgt := 2) C dX3_markRest_26 (by decide) ?_
        refine z_lv [1, 2, 0] rfl ?_
        exact ih (r + 1) _ (by omega) (by omega) (fun q hq => by show (if q = r then nI 1 else f8 q) = _; split; subst_vars; exact zb_is1 (decide_eq_true (by omega)); exact hM q (by omega))

set_option maxHeartbeats 4000000 in
set_option maxRecDepth 100000 in
theorem c_X3_markRest (l : Launch) (D : va_G) (g : ClassId × ClassId × ClassId) (h : Nat) (a : Nat → Nat) (F : Nat → Nat → Int32) (n : Nat) (ov : Bool) (am : Int32) (S : RSt) (hR : rowsRep F n ov S) (i : Nat) (hi : i < n) (hK : refOK S.1) : zM l yX3_markRest wsX3_markRest ({ frames := 1, cells := 0, slots := 0, locals := 21 } : Room) D g [.ref h, .int (nI i)] [(h, .inr (3, [.ref (a 0), .ref (a 1), .ref (a 2), .ref (a 3), .ref (a 4), .ref (a 5), .ref (a 6), .ref (a 7), .ref (a 8), .int (nI n), .int (zb ov), .int am])), (a 0, .inl (g.1, 600, .inl (F 0))), (a 1, .inl (g.1, 600, .inl (F 1))), (a 2, .inl (g.1, 600, .inl (F 2))), (a 3, .inl (g.1, 600, .inl (F 3))), (a 4, .inl (g.1, 600, .inl (F 4))), (a 5, .inl (g.1, 600, .inl (F 5))), (a 6, .inl (g.1, 600, .inl (F 6))), (a 7, .inl (g.1, 1024, .inl (F 7))), (a 8, .inl (g.2.1, 600, .inl (F 8)))] 0 0 (fun v w1 => ∃ f1 : Nat → Int32, (∀ q, q ≤ i → f1 q = zb (marksL S.1 i q)) ∧ v = none ∧ w1 = [(h, .inr (3, [.ref (a 0), .ref (a 1), .ref (a 2), .ref (a 3), .ref (a 4), .ref (a 5), .ref (a 6), .ref (a 7), .ref (a 8), .int (nI n), .int (zb ov), .int am])), (a 0, .inl (g.1, 600, .inl (F 0))), (a 1, .inl (g.1, 600, .inl (F 1))), (a 2, .inl (g.1, 600, .inl (F 2))), (a 3, .inl (g.1, 600, .inl (F 3))), (a 4, .inl (g.1, 600, .inl (F 4))), (a 5, .inl (g.1, 600, .inl (F 5))), (a 6, .inl (g.1, 600, .inl (F 6))), (a 7, .inl (g.1, 1024, .inl (F 7))), (a 8, .inl (g.2.1, 600, .inl f1))]) := by
  refine z_met (cc := cX3_markRest) (maxL := 3) (ret := none) (lv := [(0, .ref h), (1, .int (nI i))]) (by decide) rfl (Nat.le_of_ble_eq_true rfl) rfl ?_
  intro X hXD hXg hXl hnm C E
  subst hXD hXg hXl
  have C : zC X cX3_markRest 3 RX3 wsX3_markRest ({ frames := 1, cells := 0, slots := 0, locals := 21 } : Room) := C
  have hn6 := hR.le
  refine z_iconst (q := 1) C k_iconst_0 dX3_markRest_0 rfl ?_
  refine z_istore_n (q := 2) (lv' := [(2, .int (nI 0)), (0, .ref h), (1, .int (nI i))]) C rfl dX3_markRest_1 rfl (by decide) rfl ?_
  refine z_lv [1, 2, 0] rfl ?_
  exact l_X3_markRest h a F n ov am S hR i hi hK C E (i + 2) 0 (F 8) (by omega) (by omega) (fun q hq => absurd hq (Nat.not_lt_zero q))

def cntM (M : Nat → Bool) : Nat → Nat
  | 0 => 0
  | k + 1 => cntM M k + (if M k then 1 else 0)
theorem cntM_le (M : Nat → Bool) : ∀ k, cntM M k ≤ k
  | 0 => Nat.le_refl 0
  | k + 1 => by
    have := cntM_le M k
    show cntM M k + _ ≤ _
    split <;> omega
theorem cntM_t {M : Nat → Bool} {k : Nat} (h : M k = true) : cntM M (k + 1) = cntM M k + 1 := by show cntM M k + _ = _; rw [if_pos h]
theorem cntM_f {M : Nat → Bool} {k : Nat} (h : M k = false) : cntM M (k + 1) = cntM M k := by
  show cntM M k + _ = _
  rw [h]
  rfl
/-- the k-th marked row among m rows from row on, b of them before -/
def nthUp (M : Nat → Bool) (x : Int32) : Nat → Nat → Nat → Int32
  | 0, _, _ => (-1)
  | m + 1, row, b => if M row = true then (if nI b = x then nI row else nthUp M x m (row + 1) (b + 1)) else nthUp M x m (row + 1) b

set_option maxHeartbeats 4000000 in
set_option maxRecDepth 100000 in
theorem l_X3_restSize {X : zX} (h : Nat) (a : Nat → Nat) (F : Nat → Nat → Int32) (n : Nat) (ov : Bool) (am : Int32) (S : RSt) (hR : rowsRep F n ov S) (i : Nat) (hi : i < n) (hK : refOK S.1) (f1 : Nat → Int32) (hf1 : ∀ q, q ≤ i → f1 q = zb (marksL S.1 i q)) (C : zC X cX3_restSize 4 RX3 wsX3_restSize ({ frames := 2, cells := 0, slots := 0, locals := 43 } : Room)) (E : zE X (some .int) 0 0 (fun v w1 => ∃ F1 : Nat → Nat → Int32, rowsRep F1 n ov S ∧ v = some (.int (nI (cntM (marksL S.1 i) (i + 1)))) ∧ w1 = [(h, .inr (3, [.ref (a 0), .ref (a 1), .ref (a 2), .ref (a 3), .ref (a 4), .ref (a 5), .ref (a 6), .ref (a 7), .ref (a 8), .int (nI n), .int (zb ov), .int am])), (a 0, .inl (X.cI, 600, .inl (F1 0))), (a 1, .inl (X.cI, 600, .inl (F1 1))), (a 2, .inl (X.cI, 600, .inl (F1 2))), (a 3, .inl (X.cI, 600, .inl (F1 3))), (a 4, .inl (X.cI, 600, .inl (F1 4))), (a 5, .inl (X.cI, 600, .inl (F1 5))), (a 6, .inl (X.cI, 600, .inl (F1 6))), (a 7, .inl (X.cI, 1024, .inl (F1 7))), (a 8, .inl (X.cZ, 600, .inl (F1 8)))])) : ∀ (k : Nat) (r : Nat), r ≤ i + 1 → i + 1 < r + k → zW X 4 [(h, .inr (3, [.ref (a 0), .ref (a 1), .ref (a 2), .ref (a 3), .ref (a 4), .ref (a 5), .ref (a 6), .ref (a 7), .ref (a 8), .int (nI n), .int (zb ov), .int am])), (a 0, .inl (X.cI, 600, .inl (F 0))), (a 1, .inl (X.cI, 600, .inl (F 1))), (a 2, .inl (X.cI, 600, .inl (F 2))), (a 3, .inl (X.cI, 600, .inl (F 3))), (a 4, .inl (X.cI, 600, .inl (F 4))), (a 5, .inl (X.cI, 600, .inl (F 5))), (a 6, .inl (X.cI, 600, .inl (F 6))), (a 7, .inl (X.cI, 1024, .inl (F 7))), (a 8, .inl (X.cZ, 600, .inl f1))] 0 0 9 [(0, .ref h), (1, .int (nI i)), (2, .int (nI (cntM (marksL S.1 i) r))), (3, .int (nI r))] [] := by
  have hiX3 : ∀ w ∈ u_ws RX3 TX3 12, w ∈ wsX3_restSize := by decide +kernel
  have hf36 : Cond.fieldLink RX3 36 "RdfsRules$Rows" "rests" "[Z" ∈ wsX3_restSize := by decide +kernel
  intro k
  induction k with
  | zero =>
    intro r hr hk
    exfalso
    omega
  | succ k ih =>
    intro r hr hk
    have hn6 := hR.le
    have hcl := cntM_le (marksL S.1 i) r
    refine z_iload_n (q := 10) C 3 rfl rfl dX3_restSize_9 rfl ?_
    refine z_iload_n (q := 11) C 1 rfl rfl dX3_restSize_10 rfl ?_
    refine z_icmp_gt_n (q := 14) (tgt := 32) C (by omega) (by omega) dX3_restSize_11 (by decide) rfl (fun c11 => ?_) (fun c11 => ?_)
    · skip
      refine z_iload_n (q := 33) C 2 rfl rfl dX3_restSize_32 rfl ?_
      refine z_iret C E (by omega) (by omega) dX3_restSize_33 ?_
      have hri : r = i + 1 := by omega
      subst hri
      exact ⟨setF8 F f1, hR.set8 f1, rfl, rfl⟩
    · skip
      refine z_aload_n (q := 15) C 0 rfl rfl dX3_restSize_14 rfl ?_
      refine z_get (q := 18) (v := .ref (a 8)) C hiX3 0 8 rfl rfl (by decide) hf36 rfl dX3_restSize_15 rfl ?_
      refine z_iload_n (q := 19) C 3 rfl rfl dX3_restSize_18 rfl ?_
      refine z_zald (q := 20) C 9 rfl (i := r) (by omega) (by decide) dX3_restSize_19 rfl ?_
      refine z_if_eq_z (q := 23) (tgt := 26) C dX3_restSize_20 (by decide) rfl (fun c20 => ?_) (fun c20 => ?_)
      · skip
        refine z_iinc (q := 29) (v := nI (r + 1)) (lv' := [(3, .int (nI (r + 1))), (0, .ref h), (1, .int (nI i)), (2, .int (nI (cntM (marksL S.1 i) r)))]) C 3 dX3_restSize_26 rfl rfl (k_inc1 r) (by decide) rfl ?_
        refine z_goto (tgt := 9) C dX3_restSize_29 (by decide) ?_
        refine z_lv [1, 2, 3, 0] rfl ?_
        rw [← cntM_f (zb_0.mp (by rw [← hf1 r (by omega)]; exact c20))]
        exact ih (r + 1) (by omega) (by omega)
      · skip
        refine z_iinc (q := 26) (v := nI (cntM (marksL S.1 i) r + 1)) (lv' := [(2, .int (nI (cntM (marksL S.1 i) r + 1))), (0, .ref h), (1, .int (nI i)), (3, .int (nI r))]) C 2 dX3_restSize_23 rfl rfl (k_inc1 (cntM (marksL S.1 i) r)) (by decide) rfl ?_
        refine z_iinc (q := 29) (v := nI (r + 1)) (lv' := [(3, .int (nI (r + 1))), (2, .int (nI (cntM (marksL S.1 i) r + 1))), (0, .ref h), (1, .int (nI i))]) C 3 dX3_restSize_26 rfl rfl (k_inc1 r) (by decide) rfl ?_
        refine z_goto (tgt := 9) C dX3_restSize_29 (by decide) ?_
        refine z_lv [2, 3, 1, 0] rfl ?_
        rw [← cntM_t (zb_n0.mp (by rw [← hf1 r (by omega)]; exact c20))]
        exact ih (r + 1) (by omega) (by omega)

set_option maxHeartbeats 4000000 in
set_option maxRecDepth 100000 in
theorem c_X3_restSize (l : Launch) (D : va_G) (g : ClassId × ClassId × ClassId) (h : Nat) (a : Nat → Nat) (F : Nat → Nat → Int32) (n : Nat) (ov : Bool) (am : Int32) (S : RSt) (hR : rowsRep F n ov S) (i : Nat) (hi : i < n) (hK : refOK S.1) : zM l yX3_restSize wsX3_restSize ({ frames := 2, cells := 0, slots := 0, locals := 43 } : Room) D g [.ref h, .int (nI i)] [(h, .inr (3, [.ref (a 0), .ref (a 1), .ref (a 2), .ref (a 3), .ref (a 4), .ref (a 5), .ref (a 6), .ref (a 7), .ref (a 8), .int (nI n), .int (zb ov), .int am])), (a 0, .inl (g.1, 600, .inl (F 0))), (a 1, .inl (g.1, 600, .inl (F 1))), (a 2, .inl (g.1, 600, .inl (F 2))), (a 3, .inl (g.1, 600, .inl (F 3))), (a 4, .inl (g.1, 600, .inl (F 4))), (a 5, .inl (g.1, 600, .inl (F 5))), (a 6, .inl (g.1, 600, .inl (F 6))), (a 7, .inl (g.1, 1024, .inl (F 7))), (a 8, .inl (g.2.1, 600, .inl (F 8)))] 0 0 (fun v w1 => ∃ F1 : Nat → Nat → Int32, rowsRep F1 n ov S ∧ v = some (.int (nI (cntM (marksL S.1 i) (i + 1)))) ∧ w1 = [(h, .inr (3, [.ref (a 0), .ref (a 1), .ref (a 2), .ref (a 3), .ref (a 4), .ref (a 5), .ref (a 6), .ref (a 7), .ref (a 8), .int (nI n), .int (zb ov), .int am])), (a 0, .inl (g.1, 600, .inl (F1 0))), (a 1, .inl (g.1, 600, .inl (F1 1))), (a 2, .inl (g.1, 600, .inl (F1 2))), (a 3, .inl (g.1, 600, .inl (F1 3))), (a 4, .inl (g.1, 600, .inl (F1 4))), (a 5, .inl (g.1, 600, .inl (F1 5))), (a 6, .inl (g.1, 600, .inl (F1 6))), (a 7, .inl (g.1, 1024, .inl (F1 7))), (a 8, .inl (g.2.1, 600, .inl (F1 8)))]) := by
  refine z_met (cc := cX3_restSize) (maxL := 4) (ret := (some .int)) (lv := [(0, .ref h), (1, .int (nI i))]) (by decide) rfl (Nat.le_of_ble_eq_true rfl) rfl ?_
  intro X hXD hXg hXl hnm C E
  subst hXD hXg hXl
  have C : zC X cX3_restSize 4 RX3 wsX3_restSize ({ frames := 2, cells := 0, slots := 0, locals := 43 } : Room) := C
  have hn6 := hR.le
  refine z_aload_n (q := 1) C 0 rfl rfl dX3_restSize_0 rfl ?_
  refine z_iload_n (q := 2) C 1 rfl rfl dX3_restSize_1 rfl ?_
  refine z_callV (q := 5) (n := 1) (As := [.int (nI i)]) (rest := []) (wr := []) C (c_X3_markRest X.l X.D X.2.1 h a F n ov am S hR i hi hK) gX3_restSize_X3_markRest rfl rfl rfl (by decide +kernel) (by decide) ⟨by first | decide | omega, by first | decide | omega⟩ 0 3 rfl rfl [0, 1, 2, 3, 4, 5, 6, 7, 8, 9] [] rfl rfl (by decide) (by decide) (by decide) rfl rfl (Nat.le_of_ble_eq_true rfl) dX3_restSize_2 rfl (fun v w1 hp => ?_)
  obtain ⟨f1, hf1, rfl, rfl⟩ := hp
  show zW X 4 [(h, .inr (3, [.ref (a 0), .ref (a 1), .ref (a 2), .ref (a 3), .ref (a 4), .ref (a 5), .ref (a 6), .ref (a 7), .ref (a 8), .int (nI n), .int (zb ov), .int am])), (a 0, .inl (X.cI, 600, .inl (F 0))), (a 1, .inl (X.cI, 600, .inl (F 1))), (a 2, .inl (X.cI, 600, .inl (F 2))), (a 3, .inl (X.cI, 600, .inl (F 3))), (a 4, .inl (X.cI, 600, .inl (F 4))), (a 5, .inl (X.cI, 600, .inl (F 5))), (a 6, .inl (X.cI, 600, .inl (F 6))), (a 7, .inl (X.cI, 1024, .inl (F 7))), (a 8, .inl (X.cZ, 600, .inl f1))] _ _ 5 _ []
  refine z_iconst (q := 6) C k_iconst_0 dX3_restSize_5 rfl ?_
  refine z_istore_n (q := 7) (lv' := [(2, .int (nI 0)), (0, .ref h), (1, .int (nI i))]) C rfl dX3_restSize_6 rfl (by decide) rfl ?_
  refine z_iconst (q := 8) C k_iconst_0 dX3_restSize_7 rfl ?_
  refine z_istore_n (q := 9) (lv' := [(3, .int (nI 0)), (2, .int (nI 0)), (0, .ref h), (1, .int (nI i))]) C rfl dX3_restSize_8 rfl (by decide) rfl ?_
  refine z_lv [2, 3, 1, 0] rfl ?_
  exact l_X3_restSize h a F n ov am S hR i hi hK f1 hf1 C E (i + 2) 0 (by omega) (by omega)

set_option maxHeartbeats 4000000 in
set_option maxRecDepth 100000 in
theorem l_X3_restMember {X : zX} (h : Nat) (a : Nat → Nat) (F : Nat → Nat → Int32) (n : Nat) (ov : Bool) (am : Int32) (S : RSt) (hR : rowsRep F n ov S) (i : Nat) (hi : i < n) (hK : refOK S.1) (x : Int32) (f1 : Nat → Int32) (hf1 : ∀ q, q ≤ i → f1 q = zb (marksL S.1 i q)) (C : zC X cX3_restMember 5 RX3 wsX3_restMember ({ frames := 2, cells := 0, slots := 0, locals := 43 } : Room)) (E : zE X (some .int) 0 0 (fun v w1 => ∃ F1 : Nat → Nat → Int32, rowsRep F1 n ov S ∧ v = some (.int (nthUp (marksL S.1 i) x (i + 1) 0 0)) ∧ w1 = [(h, .inr (3, [.ref (a 0), .ref (a 1), .ref (a 2), .ref (a 3), .ref (a 4), .ref (a 5), .ref (a 6), .ref (a 7), .ref (a 8), .int (nI n), .int (zb ov), .int am])), (a 0, .inl (X.cI, 600, .inl (F1 0))), (a 1, .inl (X.cI, 600, .inl (F1 1))), (a 2, .inl (X.cI, 600, .inl (F1 2))), (a 3, .inl (X.cI, 600, .inl (F1 3))), (a 4, .inl (X.cI, 600, .inl (F1 4))), (a 5, .inl (X.cI, 600, .inl (F1 5))), (a 6, .inl (X.cI, 600, .inl (F1 6))), (a 7, .inl (X.cI, 1024, .inl (F1 7))), (a 8, .inl (X.cZ, 600, .inl (F1 8)))])) : ∀ (k : Nat) (r b m : Nat), r + m = i + 1 → i + 1 < r + k → b ≤ r → m ≤ i + 1 → nthUp (marksL S.1 i) x m r b = nthUp (marksL S.1 i) x (i + 1) 0 0 → zW X 5 [(h, .inr (3, [.ref (a 0), .ref (a 1), .ref (a 2), .ref (a 3), .ref (a 4), .ref (a 5), .ref (a 6), .ref (a 7), .ref (a 8), .int (nI n), .int (zb ov), .int am])), (a 0, .inl (X.cI, 600, .inl (F 0))), (a 1, .inl (X.cI, 600, .inl (F 1))), (a 2, .inl (X.cI, 600, .inl (F 2))), (a 3, .inl (X.cI, 600, .inl (F 3))), (a 4, .inl (X.cI, 600, .inl (F 4))), (a 5, .inl (X.cI, 600, .inl (F 5))), (a 6, .inl (X.cI, 600, .inl (F 6))), (a 7, .inl (X.cI, 1024, .inl (F 7))), (a 8, .inl (X.cZ, 600, .inl f1))] 0 0 10 [(0, .ref h), (1, .int (nI i)), (2, .int x), (3, .int (nI b)), (4, .int (nI r))] [] := by
  have hiX3 : ∀ w ∈ u_ws RX3 TX3 12, w ∈ wsX3_restMember := by decide +kernel
  have hf36 : Cond.fieldLink RX3 36 "RdfsRules$Rows" "rests" "[Z" ∈ wsX3_restMember := by decide +kernel
  intro k
  induction k with
  | zero =>
    intro r b m hr hk hb hmi hm
    exfalso
    omega
  | succ k ih =>
    intro r b m hr hk hb hmi hm
    have hn6 := hR.le
    refine z_iload (q := 12) C 4 rfl dX3_restMember_10 rfl ?_
    refine z_iload_n (q := 13) C 1 rfl rfl dX3_restMember_12 rfl ?_
    refine z_icmp_gt_n (q := 16) (tgt := 43) C (by omega) (by omega) dX3_restMember_13 (by decide) rfl (fun c13 => ?_) (fun c13 => ?_)
    · skip
      refine z_iconst (q := 44) C k_iconst_m1 dX3_restMember_43 rfl ?_
      refine z_iret C E (by omega) (by omega) dX3_restMember_44 ?_
      obtain rfl : m = 0 := by omega
      exact ⟨setF8 F f1, hR.set8 f1, by rw [← hm]; rfl, rfl⟩
    · skip
      refine z_aload_n (q := 17) C 0 rfl rfl dX3_restMember_16 rfl ?_
      refine z_get (q := 20) (v := .ref (a 8)) C hiX3 0 8 rfl rfl (by decide) hf36 rfl dX3_restMember_17 rfl ?_
      refine z_iload (q := 22) C 4 rfl dX3_restMember_20 rfl ?_
      refine z_zald (q := 23) C 9 rfl (i := r) (by omega) (by decide) dX3_restMember_22 rfl ?_
      refine z_if_eq_z (q := 26) (tgt := 37) C dX3_restMember_23 (by decide) rfl (fun c23 => ?_) (fun c23 => ?_)
      · skip
        refine z_iinc (q := 40) (v := nI (r + 1)) (lv' := [(4, .int (nI (r + 1))), (0, .ref h), (1, .int (nI i)), (2, .int x), (3, .int (nI b))]) C 4 dX3_restMember_37 rfl rfl (k_inc1 r) (by decide) rfl ?_
        refine z_goto (tgt := 10) C dX3_restMember_40 (by decide) ?_
        refine z_lv [1, 2, 3, 4, 0] rfl ?_
        obtain ⟨t, rfl⟩ : ∃ t, m = t + 1 := ⟨m - 1, by omega⟩
        have hmk : marksL S.1 i r = false := zb_0.mp (by rw [← hf1 r (by omega)]; exact c23)
        exact ih (r + 1) b t (by omega) (by omega) (by omega) (by omega) (by rw [← hm]; show _ = (if marksL S.1 i r = true then _ else _); rw [if_neg (by rw [hmk]; decide)])
      · skip
        refine z_iload_n (q := 27) C 3 rfl rfl dX3_restMember_26 rfl ?_
        refine z_iload_n (q := 28) C 2 rfl rfl dX3_restMember_27 rfl ?_
        refine z_icmp_ne (q := 31) (tgt := 34) C dX3_restMember_28 (by decide) rfl (fun c28 => ?_) (fun c28 => ?_)
        · skip
          refine z_iinc (q := 37) (v := nI (b + 1)) (lv' := [(3, .int (nI (b + 1))), (0, .ref h), (1, .int (nI i)), (2, .int x), (4, .int (nI r))]) C 3 dX3_restMember_34 rfl rfl (k_inc1 b) (by decide) rfl ?_
          refine z_iinc (q := 40) (v := nI (r + 1)) (lv' := [(4, .int (nI (r + 1))), (3, .int (nI (b + 1))), (0, .ref h), (1, .int (nI i)), (2, .int x)]) C 4 dX3_restMember_37 rfl rfl (k_inc1 r) (by decide) rfl ?_
          refine z_goto (tgt := 10) C dX3_restMember_40 (by decide) ?_
          refine z_lv [2, 3, 4, 1, 0] rfl ?_
          obtain ⟨t, rfl⟩ : ∃ t, m = t + 1 := ⟨m - 1, by omega⟩
          exact ih (r + 1) (b + 1) t (by omega) (by omega) (by omega) (by omega) (by rw [← hm]; show _ = (if marksL S.1 i r = true then _ else _); rw [if_pos (zb_n0.mp (by rw [← hf1 r (by omega)]; exact c23)), if_neg c28])
        · skip
          refine z_iload (q := 33) C 4 rfl dX3_restMember_31 rfl ?_
          refine z_iret C E (by omega) (by omega) dX3_restMember_33 ?_
          obtain ⟨t, rfl⟩ : ∃ t, m = t + 1 := ⟨m - 1, by omega⟩
          refine ⟨setF8 F f1, hR.set8 f1, ?_, rfl⟩
          rw [← hm]
          show _ = some (Value.int (if marksL S.1 i r = true then _ else _))
          rw [if_pos (zb_n0.mp (by rw [← hf1 r (by omega)]; exact c23)), if_pos c28]

set_option maxHeartbeats 4000000 in
set_option maxRecDepth 100000 in
theorem c_X3_restMember (l : Launch) (D : va_G) (g : ClassId × ClassId × ClassId) (h : Nat) (a : Nat → Nat) (F : Nat → Nat → Int32) (n : Nat) (ov : Bool) (am : Int32) (S : RSt) (hR : rowsRep F n ov S) (i : Nat) (hi : i < n) (hK : refOK S.1) (x : Int32) : zM l yX3_restMember wsX3_restMember ({ frames := 2, cells := 0, slots := 0, locals := 43 } : Room) D g [.ref h, .int (nI i), .int x] [(h, .inr (3, [.ref (a 0), .ref (a 1), .ref (a 2), .ref (a 3), .ref (a 4), .ref (a 5), .ref (a 6), .ref (a 7), .ref (a 8), .int (nI n), .int (zb ov), .int am])), (a 0, .inl (g.1, 600, .inl (F 0))), (a 1, .inl (g.1, 600, .inl (F 1))), (a 2, .inl (g.1, 600, .inl (F 2))), (a 3, .inl (g.1, 600, .inl (F 3))), (a 4, .inl (g.1, 600, .inl (F 4))), (a 5, .inl (g.1, 600, .inl (F 5))), (a 6, .inl (g.1, 600, .inl (F 6))), (a 7, .inl (g.1, 1024, .inl (F 7))), (a 8, .inl (g.2.1, 600, .inl (F 8)))] 0 0 (fun v w1 => ∃ F1 : Nat → Nat → Int32, rowsRep F1 n ov S ∧ v = some (.int (nthUp (marksL S.1 i) x (i + 1) 0 0)) ∧ w1 = [(h, .inr (3, [.ref (a 0), .ref (a 1), .ref (a 2), .ref (a 3), .ref (a 4), .ref (a 5), .ref (a 6), .ref (a 7), .ref (a 8), .int (nI n), .int (zb ov), .int am])), (a 0, .inl (g.1, 600, .inl (F1 0))), (a 1, .inl (g.1, 600, .inl (F1 1))), (a 2, .inl (g.1, 600, .inl (F1 2))), (a 3, .inl (g.1, 600, .inl (F1 3))), (a 4, .inl (g.1, 600, .inl (F1 4))), (a 5, .inl (g.1, 600, .inl (F1 5))), (a 6, .inl (g.1, 600, .inl (F1 6))), (a 7, .inl (g.1, 1024, .inl (F1 7))), (a 8, .inl (g.2.1, 600, .inl (F1 8)))]) := by
  refine z_met (cc := cX3_restMember) (maxL := 5) (ret := (some .int)) (lv := [(0, .ref h), (1, .int (nI i)), (2, .int x)]) (by decide) rfl (Nat.le_of_ble_eq_true rfl) rfl ?_
  intro X hXD hXg hXl hnm C E
  subst hXD hXg hXl
  have C : zC X cX3_restMember 5 RX3 wsX3_restMember ({ frames := 2, cells := 0, slots := 0, locals := 43 } : Room) := C
  have hn6 := hR.le
  refine z_aload_n (q := 1) C 0 rfl rfl dX3_restMember_0 rfl ?_
  refine z_iload_n (q := 2) C 1 rfl rfl dX3_restMember_1 rfl ?_
  refine z_callV (q := 5) (n := 1) (As := [.int (nI i)]) (rest := []) (wr := []) C (c_X3_markRest X.l X.D X.2.1 h a F n ov am S hR i hi hK) gX3_restMember_X3_markRest rfl rfl rfl (by decide +kernel) (by decide) ⟨by first | decide | omega, by first | decide | omega⟩ 0 3 rfl rfl [0, 1, 2, 3, 4, 5, 6, 7, 8, 9] [] rfl rfl (by decide) (by decide) (by decide) rfl rfl (Nat.le_of_ble_eq_true rfl) dX3_restMember_2 rfl (fun v w1 hp => ?_)
  obtain ⟨f1, hf1, rfl, rfl⟩ := hp
  show zW X 5 [(h, .inr (3, [.ref (a 0), .ref (a 1), .ref (a 2), .ref (a 3), .ref (a 4), .ref (a 5), .ref (a 6), .ref (a 7), .ref (a 8), .int (nI n), .int (zb ov), .int am])), (a 0, .inl (X.cI, 600, .inl (F 0))), (a 1, .inl (X.cI, 600, .inl (F 1))), (a 2, .inl (X.cI, 600, .inl (F 2))), (a 3, .inl (X.cI, 600, .inl (F 3))), (a 4, .inl (X.cI, 600, .inl (F 4))), (a 5, .inl (X.cI, 600, .inl (F 5))), (a 6, .inl (X.cI, 600, .inl (F 6))), (a 7, .inl (X.cI, 1024, .inl (F 7))), (a 8, .inl (X.cZ, 600, .inl f1))] _ _ 5 _ []
  refine z_iconst (q := 6) C k_iconst_0 dX3_restMember_5 rfl ?_
  refine z_istore_n (q := 7) (lv' := [(3, .int (nI 0)), (0, .ref h), (1, .int (nI i)), (2, .int x)]) C rfl dX3_restMember_6 rfl (by decide) rfl ?_
  refine z_iconst (q := 8) C k_iconst_0 dX3_restMember_7 rfl ?_
  refine z_istore (q := 10) (lv' := [(4, .int (nI 0)), (3, .int (nI 0)), (0, .ref h), (1, .int (nI i)), (2, .int x)]) C dX3_restMember_8 rfl (by decide) rfl ?_
  refine z_lv [2, 3, 4, 1, 0] rfl ?_
  exact l_X3_restMember h a F n ov am S hR i hi hK x f1 hf1 C E (i + 2) 0 0 (i + 1) (by omega) (by omega) (by omega) (by omega) rfl
