theorem row_of {n : Nat} {i : Int32} (h0 : 0 ≤ i.toInt) (h1 : i.toInt < (n : Int)) : ∃ j, j < n ∧ i = nI j := rowB_of (decide_eq_true ⟨h0, h1⟩)
theorem cloRep.at {f : Nat → Int32} {n : Nat} {L : List Row} (h : cloRep f n L) {i j : Nat} (hi : i < n) (hj : j < 7) : f (7 * i + j) = L.getD i r0 j := h.2.2 i j hi hj
theorem cloRep.at0 {f : Nat → Int32} {n : Nat} {L : List Row} (h : cloRep f n L) {i : Nat} (hi : i < n) : f (7 * i) = L.getD i r0 0 := h.2.2 i 0 hi (by omega)
theorem mkStep_keep {L : List Row} (hK : refOK L) {M : Nat → Bool} {k : Nat} (hk : k < L.length) (hL : L.length ≤ 600) {q : Nat} (hq : k ≤ q) (hq6 : q < 600) : mkStep L M k q = M q := by
  unfold mkStep
  split
  · have one : ∀ j, (j = 4 ∨ j = 5) → ∀ N : Nat → Bool, mk1 (L.getD k r0 j) N q = N q := fun j hj N => by
      rcases hK k j hk hj with e | ⟨m, hm, e⟩
      · rw [e, mk1_none]
      · rw [e, mk1_row (by omega) (by omega), if_neg (by omega)]
    rw [one 5 (by omega), one 4 (by omega)]
  · rfl
theorem mkDown_keep {L : List Row} (hK : refOK L) (hL : L.length ≤ 600) : ∀ (k : Nat) (M : Nat → Bool), k ≤ L.length → ∀ q, k ≤ q → q < 600 → mkDown L k M q = M q
  | 0, _, _, _, _, _ => rfl
  | k + 1, M, hk, q, hq, h6 => by
    show mkDown L k (mkStep L M k) q = M q
    rw [mkDown_keep hK hL k _ (by omega) q (by omega) h6]
    exact mkStep_keep hK (by omega) hL (by omega) h6

set_option maxHeartbeats 4000000 in
set_option maxRecDepth 100000 in
theorem c_X6_closed (l : Launch) (D : va_G) (g : ClassId × ClassId × ClassId) (hm : Nat) (e : Nat → Nat) (M : Nat → Nat → Int32) (cd : Int32) (mb ak : Bool) (cnt k nl n m md : Nat) (fu : Bool) (L : List Row) (hC : cloRep (M 2) n L) (i x : Int32) : zM l yX6_closed wsX6_closed ({ frames := 1, cells := 0, slots := 0, locals := 21 } : Room) D g [.ref hm, .int i, .int x] [(hm, .inr (6, [.int cd, .int (zb mb), .int (zb ak), .int (nI cnt), .int (nI k), .ref (e 0), .int (nI nl), .ref (e 1), .int (nI n), .ref (e 2), .int (nI m), .int (nI md), .ref (e 3), .ref (e 4), .int (zb fu), .ref (e 5)])), (e 0, .inl (g.1, 240, .inl (M 0))), (e 1, .inl (g.1, 40, .inl (M 1))), (e 2, .inl (g.1, 4200, .inl (M 2))), (e 3, .inl (g.1, 4207, .inl (M 3))), (e 4, .inl (g.1, 2048, .inl (M 4))), (e 5, .inl (g.1, 600, .inl (M 5)))] 0 0 (fun v w1 => (cdClo L i x = 1 ∧ v = some (.int (nI 0)) ∧ w1 = [(hm, .inr (6, [.int (nI 1), .int (zb mb), .int (zb ak), .int (nI cnt), .int (nI k), .ref (e 0), .int (nI nl), .ref (e 1), .int (nI n), .ref (e 2), .int (nI m), .int (nI md), .ref (e 3), .ref (e 4), .int (zb fu), .ref (e 5)])), (e 0, .inl (g.1, 240, .inl (M 0))), (e 1, .inl (g.1, 40, .inl (M 1))), (e 2, .inl (g.1, 4200, .inl (M 2))), (e 3, .inl (g.1, 4207, .inl (M 3))), (e 4, .inl (g.1, 2048, .inl (M 4))), (e 5, .inl (g.1, 600, .inl (M 5)))]) ∨ (cdClo L i x = 0 ∧ v = some (.int (vaClo L i x)) ∧ w1 = [(hm, .inr (6, [.int (nI 0), .int (zb mb), .int (zb ak), .int (nI cnt), .int (nI k), .ref (e 0), .int (nI nl), .ref (e 1), .int (nI n), .ref (e 2), .int (nI m), .int (nI md), .ref (e 3), .ref (e 4), .int (zb fu), .ref (e 5)])), (e 0, .inl (g.1, 240, .inl (M 0))), (e 1, .inl (g.1, 40, .inl (M 1))), (e 2, .inl (g.1, 4200, .inl (M 2))), (e 3, .inl (g.1, 4207, .inl (M 3))), (e 4, .inl (g.1, 2048, .inl (M 4))), (e 5, .inl (g.1, 600, .inl (M 5)))])) := by
  refine z_met (cc := cX6_closed) (maxL := 3) (ret := (some .int)) (lv := [(0, .ref hm), (1, .int i), (2, .int x)]) (by decide) rfl (Nat.le_of_ble_eq_true rfl) rfl ?_
  intro X hXD hXg hXl hnm C E
  subst hXD hXg hXl
  have C : zC X cX6_closed 3 RX6 wsX6_closed ({ frames := 1, cells := 0, slots := 0, locals := 21 } : Room) := C
  have hiX6 : ∀ w ∈ u_ws RX6 TX6 16, w ∈ wsX6_closed := by decide +kernel
  have hf20 : Cond.fieldLink RX6 20 "RdfsRulesModel" "closure" "[I" ∈ wsX6_closed := by decide +kernel
  have hf109 : Cond.fieldLink RX6 109 "RdfsRulesModel" "rows" "I" ∈ wsX6_closed := by decide +kernel
  have hn6 := hC.2.1
  refine z_aload_n (q := 1) C 0 rfl rfl dX6_closed_0 rfl ?_
  refine z_iload_n (q := 2) C 1 rfl rfl dX6_closed_1 rfl ?_
  refine z_if_lt_i (q := 5) (tgt := 23) C rfl dX6_closed_2 (by decide) rfl (fun c2 => ?_) (fun c2 => ?_)
  · skip
    refine z_iconst (q := 24) C k_iconst_1 dX6_closed_23 rfl ?_
    refine z_goto (tgt := 28) C dX6_closed_24 (by decide) ?_
    refine z_callV (q := 31) (n := 1) (As := [.int (nI 1)]) (rest := []) (wr := [(e 0, .inl (X.cI, 240, .inl (M 0))), (e 1, .inl (X.cI, 40, .inl (M 1))), (e 2, .inl (X.cI, 4200, .inl (M 2))), (e 3, .inl (X.cI, 4207, .inl (M 3))), (e 4, .inl (X.cI, 2048, .inl (M 4))), (e 5, .inl (X.cI, 600, .inl (M 5)))]) C (c_X6_refuses X.l X.D X.2.1 hm e M cd mb ak cnt k nl n m md fu 1 (by omega)) gX6_closed_X6_refuses rfl rfl rfl (by decide +kernel) (by decide) ⟨by first | decide | omega, by first | decide | omega⟩ 0 6 rfl rfl [0] [1, 2, 3, 4, 5, 6] rfl rfl (by decide) (by decide) (by decide) rfl rfl (Nat.le_of_ble_eq_true rfl) dX6_closed_28 rfl (fun v w1 hp => ?_)
    obtain ⟨rfl, rfl⟩ := hp
    show zW X 3 [(e 0, .inl (X.cI, 240, .inl (M 0))), (e 1, .inl (X.cI, 40, .inl (M 1))), (e 2, .inl (X.cI, 4200, .inl (M 2))), (e 3, .inl (X.cI, 4207, .inl (M 3))), (e 4, .inl (X.cI, 2048, .inl (M 4))), (e 5, .inl (X.cI, 600, .inl (M 5))), (hm, .inr (6, [.int (nI 1), .int (zb mb), .int (zb ak), .int (nI cnt), .int (nI k), .ref (e 0), .int (nI nl), .ref (e 1), .int (nI n), .ref (e 2), .int (nI m), .int (nI md), .ref (e 3), .ref (e 4), .int (zb fu), .ref (e 5)]))] _ _ 31 _ [.int (zb (decide (0 < 1)))]
    refine z_ws (ws' := [(hm, .inr (6, [.int (nI 1), .int (zb mb), .int (zb ak), .int (nI cnt), .int (nI k), .ref (e 0), .int (nI nl), .ref (e 1), .int (nI n), .ref (e 2), .int (nI m), .int (nI md), .ref (e 3), .ref (e 4), .int (zb fu), .ref (e 5)])), (e 0, .inl (X.cI, 240, .inl (M 0))), (e 1, .inl (X.cI, 40, .inl (M 1))), (e 2, .inl (X.cI, 4200, .inl (M 2))), (e 3, .inl (X.cI, 4207, .inl (M 3))), (e 4, .inl (X.cI, 2048, .inl (M 4))), (e 5, .inl (X.cI, 600, .inl (M 5)))]) [6, 0, 1, 2, 3, 4, 5] (by decide) rfl ?_
    refine z_if_eq_b (q := 34) (tgt := 38) C dX6_closed_31 (by decide) rfl (fun c31 => ?_) (fun c31 => ?_)
    · skip
      exact absurd c31 (by decide)
    · skip
      refine z_iconst (q := 35) C k_iconst_0 dX6_closed_34 rfl ?_
      refine z_goto (tgt := 49) C dX6_closed_35 (by decide) ?_
      refine z_iret C E (by omega) (by omega) dX6_closed_49 ?_
      refine Or.inl ⟨if_neg (fun z9 => ?_), rfl, rfl⟩
      have := of_decide_eq_true z9.1
      rw [hC.1] at this
      omega
  · skip
    refine z_iload_n (q := 6) C 1 rfl rfl dX6_closed_5 rfl ?_
    refine z_aload_n (q := 7) C 0 rfl rfl dX6_closed_6 rfl ?_
    refine z_get (q := 10) (v := .int (nI n)) C hiX6 0 8 rfl rfl (by decide) hf109 rfl dX6_closed_7 rfl ?_
    refine z_icmp_ge_i (q := 13) (tgt := 23) C rfl (nI_toInt (n := n) (by omega)) dX6_closed_10 (by decide) rfl (fun c10 => ?_) (fun c10 => ?_)
    · skip
      refine z_iconst (q := 24) C k_iconst_1 dX6_closed_23 rfl ?_
      refine z_goto (tgt := 28) C dX6_closed_24 (by decide) ?_
      refine z_callV (q := 31) (n := 1) (As := [.int (nI 1)]) (rest := []) (wr := [(e 0, .inl (X.cI, 240, .inl (M 0))), (e 1, .inl (X.cI, 40, .inl (M 1))), (e 2, .inl (X.cI, 4200, .inl (M 2))), (e 3, .inl (X.cI, 4207, .inl (M 3))), (e 4, .inl (X.cI, 2048, .inl (M 4))), (e 5, .inl (X.cI, 600, .inl (M 5)))]) C (c_X6_refuses X.l X.D X.2.1 hm e M cd mb ak cnt k nl n m md fu 1 (by omega)) gX6_closed_X6_refuses rfl rfl rfl (by decide +kernel) (by decide) ⟨by first | decide | omega, by first | decide | omega⟩ 0 6 rfl rfl [0] [1, 2, 3, 4, 5, 6] rfl rfl (by decide) (by decide) (by decide) rfl rfl (Nat.le_of_ble_eq_true rfl) dX6_closed_28 rfl (fun v w1 hp => ?_)
      obtain ⟨rfl, rfl⟩ := hp
      show zW X 3 [(e 0, .inl (X.cI, 240, .inl (M 0))), (e 1, .inl (X.cI, 40, .inl (M 1))), (e 2, .inl (X.cI, 4200, .inl (M 2))), (e 3, .inl (X.cI, 4207, .inl (M 3))), (e 4, .inl (X.cI, 2048, .inl (M 4))), (e 5, .inl (X.cI, 600, .inl (M 5))), (hm, .inr (6, [.int (nI 1), .int (zb mb), .int (zb ak), .int (nI cnt), .int (nI k), .ref (e 0), .int (nI nl), .ref (e 1), .int (nI n), .ref (e 2), .int (nI m), .int (nI md), .ref (e 3), .ref (e 4), .int (zb fu), .ref (e 5)]))] _ _ 31 _ [.int (zb (decide (0 < 1)))]
      refine z_ws (ws' := [(hm, .inr (6, [.int (nI 1), .int (zb mb), .int (zb ak), .int (nI cnt), .int (nI k), .ref (e 0), .int (nI nl), .ref (e 1), .int (nI n), .ref (e 2), .int (nI m), .int (nI md), .ref (e 3), .ref (e 4), .int (zb fu), .ref (e 5)])), (e 0, .inl (X.cI, 240, .inl (M 0))), (e 1, .inl (X.cI, 40, .inl (M 1))), (e 2, .inl (X.cI, 4200, .inl (M 2))), (e 3, .inl (X.cI, 4207, .inl (M 3))), (e 4, .inl (X.cI, 2048, .inl (M 4))), (e 5, .inl (X.cI, 600, .inl (M 5)))]) [6, 0, 1, 2, 3, 4, 5] (by decide) rfl ?_
      refine z_if_eq_b (q := 34) (tgt := 38) C dX6_closed_31 (by decide) rfl (fun c31 => ?_) (fun c31 => ?_)
      · skip
        exact absurd c31 (by decide)
      · skip
        refine z_iconst (q := 35) C k_iconst_0 dX6_closed_34 rfl ?_
        refine z_goto (tgt := 49) C dX6_closed_35 (by decide) ?_
        refine z_iret C E (by omega) (by omega) dX6_closed_49 ?_
        refine Or.inl ⟨if_neg (fun z9 => ?_), rfl, rfl⟩
        have := of_decide_eq_true z9.1
        rw [hC.1] at this
        omega
    · skip
      refine z_iload_n (q := 14) C 2 rfl rfl dX6_closed_13 rfl ?_
      refine z_if_lt_i (q := 17) (tgt := 23) C rfl dX6_closed_14 (by decide) rfl (fun c14 => ?_) (fun c14 => ?_)
      · skip
        refine z_iconst (q := 24) C k_iconst_1 dX6_closed_23 rfl ?_
        refine z_goto (tgt := 28) C dX6_closed_24 (by decide) ?_
        refine z_callV (q := 31) (n := 1) (As := [.int (nI 1)]) (rest := []) (wr := [(e 0, .inl (X.cI, 240, .inl (M 0))), (e 1, .inl (X.cI, 40, .inl (M 1))), (e 2, .inl (X.cI, 4200, .inl (M 2))), (e 3, .inl (X.cI, 4207, .inl (M 3))), (e 4, .inl (X.cI, 2048, .inl (M 4))), (e 5, .inl (X.cI, 600, .inl (M 5)))]) C (c_X6_refuses X.l X.D X.2.1 hm e M cd mb ak cnt k nl n m md fu 1 (by omega)) gX6_closed_X6_refuses rfl rfl rfl (by decide +kernel) (by decide) ⟨by first | decide | omega, by first | decide | omega⟩ 0 6 rfl rfl [0] [1, 2, 3, 4, 5, 6] rfl rfl (by decide) (by decide) (by decide) rfl rfl (Nat.le_of_ble_eq_true rfl) dX6_closed_28 rfl (fun v w1 hp => ?_)
        obtain ⟨rfl, rfl⟩ := hp
        show zW X 3 [(e 0, .inl (X.cI, 240, .inl (M 0))), (e 1, .inl (X.cI, 40, .inl (M 1))), (e 2, .inl (X.cI, 4200, .inl (M 2))), (e 3, .inl (X.cI, 4207, .inl (M 3))), (e 4, .inl (X.cI, 2048, .inl (M 4))), (e 5, .inl (X.cI, 600, .inl (M 5))), (hm, .inr (6, [.int (nI 1), .int (zb mb), .int (zb ak), .int (nI cnt), .int (nI k), .ref (e 0), .int (nI nl), .ref (e 1), .int (nI n), .ref (e 2), .int (nI m), .int (nI md), .ref (e 3), .ref (e 4), .int (zb fu), .ref (e 5)]))] _ _ 31 _ [.int (zb (decide (0 < 1)))]
        refine z_ws (ws' := [(hm, .inr (6, [.int (nI 1), .int (zb mb), .int (zb ak), .int (nI cnt), .int (nI k), .ref (e 0), .int (nI nl), .ref (e 1), .int (nI n), .ref (e 2), .int (nI m), .int (nI md), .ref (e 3), .ref (e 4), .int (zb fu), .ref (e 5)])), (e 0, .inl (X.cI, 240, .inl (M 0))), (e 1, .inl (X.cI, 40, .inl (M 1))), (e 2, .inl (X.cI, 4200, .inl (M 2))), (e 3, .inl (X.cI, 4207, .inl (M 3))), (e 4, .inl (X.cI, 2048, .inl (M 4))), (e 5, .inl (X.cI, 600, .inl (M 5)))]) [6, 0, 1, 2, 3, 4, 5] (by decide) rfl ?_
        refine z_if_eq_b (q := 34) (tgt := 38) C dX6_closed_31 (by decide) rfl (fun c31 => ?_) (fun c31 => ?_)
        · skip
          exact absurd c31 (by decide)
        · skip
          refine z_iconst (q := 35) C k_iconst_0 dX6_closed_34 rfl ?_
          refine z_goto (tgt := 49) C dX6_closed_35 (by decide) ?_
          refine z_iret C E (by omega) (by omega) dX6_closed_49 ?_
          refine Or.inl ⟨if_neg (fun z9 => ?_), rfl, rfl⟩
          have := of_decide_eq_true z9.1
          rw [hC.1] at this
          omega
      · skip
        refine z_iload_n (q := 18) C 2 rfl rfl dX6_closed_17 rfl ?_
        refine z_bipush (q := 20) C k_bipush_6 dX6_closed_18 rfl ?_
        refine z_icmp_le_i (q := 23) (tgt := 27) C rfl ti_6 dX6_closed_20 (by decide) rfl (fun c20 => ?_) (fun c20 => ?_)
        · skip
          obtain ⟨j, hj, rfl⟩ := row_of c2 c10
          obtain ⟨z, hz, rfl⟩ := i_of 6 c14 c20
          refine z_iconst (q := 28) C k_iconst_0 dX6_closed_27 rfl ?_
          refine z_callV (q := 31) (n := 1) (As := [.int (nI 0)]) (rest := []) (wr := [(e 0, .inl (X.cI, 240, .inl (M 0))), (e 1, .inl (X.cI, 40, .inl (M 1))), (e 2, .inl (X.cI, 4200, .inl (M 2))), (e 3, .inl (X.cI, 4207, .inl (M 3))), (e 4, .inl (X.cI, 2048, .inl (M 4))), (e 5, .inl (X.cI, 600, .inl (M 5)))]) C (c_X6_refuses X.l X.D X.2.1 hm e M cd mb ak cnt k nl n m md fu 0 (by omega)) gX6_closed_X6_refuses rfl rfl rfl (by decide +kernel) (by decide) ⟨by first | decide | omega, by first | decide | omega⟩ 0 6 rfl rfl [0] [1, 2, 3, 4, 5, 6] rfl rfl (by decide) (by decide) (by decide) rfl rfl (Nat.le_of_ble_eq_true rfl) dX6_closed_28 rfl (fun v w1 hp => ?_)
          obtain ⟨rfl, rfl⟩ := hp
          show zW X 3 [(e 0, .inl (X.cI, 240, .inl (M 0))), (e 1, .inl (X.cI, 40, .inl (M 1))), (e 2, .inl (X.cI, 4200, .inl (M 2))), (e 3, .inl (X.cI, 4207, .inl (M 3))), (e 4, .inl (X.cI, 2048, .inl (M 4))), (e 5, .inl (X.cI, 600, .inl (M 5))), (hm, .inr (6, [.int (nI 0), .int (zb mb), .int (zb ak), .int (nI cnt), .int (nI k), .ref (e 0), .int (nI nl), .ref (e 1), .int (nI n), .ref (e 2), .int (nI m), .int (nI md), .ref (e 3), .ref (e 4), .int (zb fu), .ref (e 5)]))] _ _ 31 _ [.int (zb (decide (0 < 0)))]
          refine z_ws (ws' := [(hm, .inr (6, [.int (nI 0), .int (zb mb), .int (zb ak), .int (nI cnt), .int (nI k), .ref (e 0), .int (nI nl), .ref (e 1), .int (nI n), .ref (e 2), .int (nI m), .int (nI md), .ref (e 3), .ref (e 4), .int (zb fu), .ref (e 5)])), (e 0, .inl (X.cI, 240, .inl (M 0))), (e 1, .inl (X.cI, 40, .inl (M 1))), (e 2, .inl (X.cI, 4200, .inl (M 2))), (e 3, .inl (X.cI, 4207, .inl (M 3))), (e 4, .inl (X.cI, 2048, .inl (M 4))), (e 5, .inl (X.cI, 600, .inl (M 5)))]) [6, 0, 1, 2, 3, 4, 5] (by decide) rfl ?_
          refine z_if_eq_b (q := 34) (tgt := 38) C dX6_closed_31 (by decide) rfl (fun c31 => ?_) (fun c31 => ?_)
          · skip
            refine z_aload_n (q := 39) C 0 rfl rfl dX6_closed_38 rfl ?_
            refine z_get (q := 42) (v := .ref (e 2)) C hiX6 0 9 rfl rfl (by decide) hf20 rfl dX6_closed_39 rfl ?_
            refine z_bipush (q := 44) C k_bipush_7 dX6_closed_42 rfl ?_
            refine z_iload_n (q := 45) C 1 rfl rfl dX6_closed_44 rfl ?_
            refine z_imul (q := 46) C dX6_closed_45 rfl ?_
            refine z_eqi (y := nI (7 * j)) (pk_mul 7 j) ?_
            refine z_iload_n (q := 47) C 2 rfl rfl dX6_closed_46 rfl ?_
            refine z_iadd (q := 48) C dX6_closed_47 rfl ?_
            refine z_eqi (y := nI ((7 * j) + z)) (nI_add (7 * j) z) ?_
            refine z_iald (q := 49) C 3 rfl (i := (7 * j) + z) (by omega) (by decide) dX6_closed_48 rfl ?_
            refine z_iret C E (by omega) (by omega) dX6_closed_49 ?_
            exact Or.inr ⟨if_pos ⟨by rw [hC.1]; exact decide_eq_true ⟨c2, c10⟩, c14, c20⟩, by unfold vaClo; rw [nI_tn (by omega), nI_tn (by omega), hC.at hj (by omega)], rfl⟩
          · skip
            exact absurd c31 (by decide)
        · skip
          refine z_iconst (q := 24) C k_iconst_1 dX6_closed_23 rfl ?_
          refine z_goto (tgt := 28) C dX6_closed_24 (by decide) ?_
          refine z_callV (q := 31) (n := 1) (As := [.int (nI 1)]) (rest := []) (wr := [(e 0, .inl (X.cI, 240, .inl (M 0))), (e 1, .inl (X.cI, 40, .inl (M 1))), (e 2, .inl (X.cI, 4200, .inl (M 2))), (e 3, .inl (X.cI, 4207, .inl (M 3))), (e 4, .inl (X.cI, 2048, .inl (M 4))), (e 5, .inl (X.cI, 600, .inl (M 5)))]) C (c_X6_refuses X.l X.D X.2.1 hm e M cd mb ak cnt k nl n m md fu 1 (by omega)) gX6_closed_X6_refuses rfl rfl rfl (by decide +kernel) (by decide) ⟨by first | decide | omega, by first | decide | omega⟩ 0 6 rfl rfl [0] [1, 2, 3, 4, 5, 6] rfl rfl (by decide) (by decide) (by decide) rfl rfl (Nat.le_of_ble_eq_true rfl) dX6_closed_28 rfl (fun v w1 hp => ?_)
          obtain ⟨rfl, rfl⟩ := hp
          show zW X 3 [(e 0, .inl (X.cI, 240, .inl (M 0))), (e 1, .inl (X.cI, 40, .inl (M 1))), (e 2, .inl (X.cI, 4200, .inl (M 2))), (e 3, .inl (X.cI, 4207, .inl (M 3))), (e 4, .inl (X.cI, 2048, .inl (M 4))), (e 5, .inl (X.cI, 600, .inl (M 5))), (hm, .inr (6, [.int (nI 1), .int (zb mb), .int (zb ak), .int (nI cnt), .int (nI k), .ref (e 0), .int (nI nl), .ref (e 1), .int (nI n), .ref (e 2), .int (nI m), .int (nI md), .ref (e 3), .ref (e 4), .int (zb fu), .ref (e 5)]))] _ _ 31 _ [.int (zb (decide (0 < 1)))]
          refine z_ws (ws' := [(hm, .inr (6, [.int (nI 1), .int (zb mb), .int (zb ak), .int (nI cnt), .int (nI k), .ref (e 0), .int (nI nl), .ref (e 1), .int (nI n), .ref (e 2), .int (nI m), .int (nI md), .ref (e 3), .ref (e 4), .int (zb fu), .ref (e 5)])), (e 0, .inl (X.cI, 240, .inl (M 0))), (e 1, .inl (X.cI, 40, .inl (M 1))), (e 2, .inl (X.cI, 4200, .inl (M 2))), (e 3, .inl (X.cI, 4207, .inl (M 3))), (e 4, .inl (X.cI, 2048, .inl (M 4))), (e 5, .inl (X.cI, 600, .inl (M 5)))]) [6, 0, 1, 2, 3, 4, 5] (by decide) rfl ?_
          refine z_if_eq_b (q := 34) (tgt := 38) C dX6_closed_31 (by decide) rfl (fun c31 => ?_) (fun c31 => ?_)
          · skip
            exact absurd c31 (by decide)
          · skip
            refine z_iconst (q := 35) C k_iconst_0 dX6_closed_34 rfl ?_
            refine z_goto (tgt := 49) C dX6_closed_35 (by decide) ?_
            refine z_iret C E (by omega) (by omega) dX6_closed_49 ?_
            refine Or.inl ⟨if_neg (fun z9 => ?_), rfl, rfl⟩
            have := of_decide_eq_true z9.1
            rw [hC.1] at this
            omega

set_option maxHeartbeats 4000000 in
set_option maxRecDepth 100000 in
theorem l_X6_find {X : zX} (hm : Nat) (e : Nat → Nat) (M : Nat → Nat → Int32) (mb ak : Bool) (cnt k nl n m : Nat) (md : Nat) (fu : Bool) (L : List Row) (hC : cloRep (M 2) n L) (s p o : Int32) (C : zC X cX6_find 5 RX6 wsX6_find ({ frames := 0, cells := 0, slots := 0, locals := 0 } : Room)) (E : zE X (some .int) 0 0 (fun v w1 => v = some (.int (findR L s p o)) ∧ w1 = [(hm, .inr (6, [.int (nI 0), .int (zb mb), .int (zb ak), .int (nI cnt), .int (nI k), .ref (e 0), .int (nI nl), .ref (e 1), .int (nI n), .ref (e 2), .int (nI m), .int (nI md), .ref (e 3), .ref (e 4), .int (zb fu), .ref (e 5)])), (e 0, .inl (X.cI, 240, .inl (M 0))), (e 1, .inl (X.cI, 40, .inl (M 1))), (e 2, .inl (X.cI, 4200, .inl (M 2))), (e 3, .inl (X.cI, 4207, .inl (M 3))), (e 4, .inl (X.cI, 2048, .inl (M 4))), (e 5, .inl (X.cI, 600, .inl (M 5)))])) : ∀ (z : Nat) (i : Nat), i ≤ n → n < i + z → (∀ g, g < i → ¬ (L.getD g r0 0 = s ∧ L.getD g r0 1 = p ∧ L.getD g r0 2 = o)) → zW X 5 [(hm, .inr (6, [.int (nI 0), .int (zb mb), .int (zb ak), .int (nI cnt), .int (nI k), .ref (e 0), .int (nI nl), .ref (e 1), .int (nI n), .ref (e 2), .int (nI m), .int (nI md), .ref (e 3), .ref (e 4), .int (zb fu), .ref (e 5)])), (e 0, .inl (X.cI, 240, .inl (M 0))), (e 1, .inl (X.cI, 40, .inl (M 1))), (e 2, .inl (X.cI, 4200, .inl (M 2))), (e 3, .inl (X.cI, 4207, .inl (M 3))), (e 4, .inl (X.cI, 2048, .inl (M 4))), (e 5, .inl (X.cI, 600, .inl (M 5)))] 0 0 8 [(0, .ref hm), (1, .int s), (2, .int p), (3, .int o), (4, .int (nI i))] [] := by
  have hiX6 : ∀ w ∈ u_ws RX6 TX6 16, w ∈ wsX6_find := by decide +kernel
  have hf20 : Cond.fieldLink RX6 20 "RdfsRulesModel" "closure" "[I" ∈ wsX6_find := by decide +kernel
  have hf109 : Cond.fieldLink RX6 109 "RdfsRulesModel" "rows" "I" ∈ wsX6_find := by decide +kernel
  intro z
  induction z with
  | zero =>
    intro i hi hz hno
    exfalso
    omega
  | succ z ih =>
    intro i hi hz hno
    have hn6 := hC.2.1
    refine z_iload (q := 10) C 4 rfl dX6_find_8 rfl ?_
    refine z_aload_n (q := 11) C 0 rfl rfl dX6_find_10 rfl ?_
    refine z_get (q := 14) (v := .int (nI n)) C hiX6 0 8 rfl rfl (by decide) hf109 rfl dX6_find_11 rfl ?_
    refine z_icmp_ge_n (q := 17) (tgt := 72) C (by omega) (by omega) dX6_find_14 (by decide) rfl (fun c14 => ?_) (fun c14 => ?_)
    · skip
      refine z_iconst (q := 73) C k_iconst_m1 dX6_find_72 rfl ?_
      refine z_iret C E (by omega) (by omega) dX6_find_73 ?_
      exact ⟨by rw [findR_none (fun z9 => by obtain ⟨j, hj, z9⟩ := hasF_iff.mp z9; rw [hC.1] at hj; exact hno j (by omega) z9)], rfl⟩
    · skip
      have hlt : i < n := c14
      refine z_aload_n (q := 18) C 0 rfl rfl dX6_find_17 rfl ?_
      refine z_get (q := 21) (v := .ref (e 2)) C hiX6 0 9 rfl rfl (by decide) hf20 rfl dX6_find_18 rfl ?_
      refine z_bipush (q := 23) C k_bipush_7 dX6_find_21 rfl ?_
      refine z_iload (q := 25) C 4 rfl dX6_find_23 rfl ?_
      refine z_imul (q := 26) C dX6_find_25 rfl ?_
      refine z_eqi (y := nI (7 * i)) (pk_mul 7 i) ?_
      refine z_iald (q := 27) C 3 rfl (i := 7 * i) (by omega) (by decide) dX6_find_26 rfl ?_
      refine z_iload_n (q := 28) C 1 rfl rfl dX6_find_27 rfl ?_
      refine z_icmp_ne (q := 31) (tgt := 66) C dX6_find_28 (by decide) rfl (fun c28 => ?_) (fun c28 => ?_)
      · skip
        refine z_iinc (q := 69) (v := nI (i + 1)) (lv' := [(4, .int (nI (i + 1))), (0, .ref hm), (1, .int s), (2, .int p), (3, .int o)]) C 4 dX6_find_66 rfl rfl (k_inc1 i) (by decide) rfl ?_
        refine z_goto (tgt := 8) C dX6_find_69 (by decide) ?_
        refine z_lv [1, 2, 3, 4, 0] rfl ?_
        exact ih (i + 1) (by omega) (by omega) (fun g hg => by rcases Nat.lt_succ_iff_lt_or_eq.mp hg with h1 | h1; exact hno g h1; subst h1; exact fun z9 => c28 (by rw [hC.at0 hlt]; exact z9.1))
      · skip
        refine z_aload_n (q := 32) C 0 rfl rfl dX6_find_31 rfl ?_
        refine z_get (q := 35) (v := .ref (e 2)) C hiX6 0 9 rfl rfl (by decide) hf20 rfl dX6_find_32 rfl ?_
        refine z_bipush (q := 37) C k_bipush_7 dX6_find_35 rfl ?_
        refine z_iload (q := 39) C 4 rfl dX6_find_37 rfl ?_
        refine z_imul (q := 40) C dX6_find_39 rfl ?_
        refine z_eqi (y := nI (7 * i)) (pk_mul 7 i) ?_
        refine z_iconst (q := 41) C k_iconst_1 dX6_find_40 rfl ?_
        refine z_iadd (q := 42) C dX6_find_41 rfl ?_
        refine z_eqi (y := nI ((7 * i) + 1)) (nI_add (7 * i) 1) ?_
        refine z_iald (q := 43) C 3 rfl (i := (7 * i) + 1) (by omega) (by decide) dX6_find_42 rfl ?_
        refine z_iload_n (q := 44) C 2 rfl rfl dX6_find_43 rfl ?_
        refine z_icmp_ne (q := 47) (tgt := 66) C dX6_find_44 (by decide) rfl (fun c44 => ?_) (fun c44 => ?_)
        · skip
          refine z_iinc (q := 69) (v := nI (i + 1)) (lv' := [(4, .int (nI (i + 1))), (0, .ref hm), (1, .int s), (2, .int p), (3, .int o)]) C 4 dX6_find_66 rfl rfl (k_inc1 i) (by decide) rfl ?_
          refine z_goto (tgt := 8) C dX6_find_69 (by decide) ?_
          refine z_lv [1, 2, 3, 4, 0] rfl ?_
          exact ih (i + 1) (by omega) (by omega) (fun g hg => by rcases Nat.lt_succ_iff_lt_or_eq.mp hg with h1 | h1; exact hno g h1; subst h1; exact fun z9 => c44 (by rw [hC.at hlt (by omega)]; exact z9.2.1))
        · skip
          refine z_aload_n (q := 48) C 0 rfl rfl dX6_find_47 rfl ?_
          refine z_get (q := 51) (v := .ref (e 2)) C hiX6 0 9 rfl rfl (by decide) hf20 rfl dX6_find_48 rfl ?_
          refine z_bipush (q := 53) C k_bipush_7 dX6_find_51 rfl ?_
          refine z_iload (q := 55) C 4 rfl dX6_find_53 rfl ?_
          refine z_imul (q := 56) C dX6_find_55 rfl ?_
          refine z_eqi (y := nI (7 * i)) (pk_mul 7 i) ?_
          refine z_iconst (q := 57) C k_iconst_2 dX6_find_56 rfl ?_
          refine z_iadd (q := 58) C dX6_find_57 rfl ?_
          refine z_eqi (y := nI ((7 * i) + 2)) (nI_add (7 * i) 2) ?_
          refine z_iald (q := 59) C 3 rfl (i := (7 * i) + 2) (by omega) (by decide) dX6_find_58 rfl ?_
          refine z_iload_n (q := 60) C 3 rfl rfl dX6_find_59 rfl ?_
          refine z_icmp_ne (q := 63) (tgt := 66) C dX6_find_60 (by decide) rfl (fun c60 => ?_) (fun c60 => ?_)
          · skip
            refine z_iinc (q := 69) (v := nI (i + 1)) (lv' := [(4, .int (nI (i + 1))), (0, .ref hm), (1, .int s), (2, .int p), (3, .int o)]) C 4 dX6_find_66 rfl rfl (k_inc1 i) (by decide) rfl ?_
            refine z_goto (tgt := 8) C dX6_find_69 (by decide) ?_
            refine z_lv [1, 2, 3, 4, 0] rfl ?_
            exact ih (i + 1) (by omega) (by omega) (fun g hg => by rcases Nat.lt_succ_iff_lt_or_eq.mp hg with h1 | h1; exact hno g h1; subst h1; exact fun z9 => c60 (by rw [hC.at hlt (by omega)]; exact z9.2.2))
          · skip
            refine z_iload (q := 65) C 4 rfl dX6_find_63 rfl ?_
            refine z_iret C E (by omega) (by omega) dX6_find_65 ?_
            exact ⟨by rw [findR_some (j := i) (by rw [hC.1]; exact hlt) ⟨by rw [← hC.at0 hlt]; exact c28, by rw [← hC.at (j := 1) hlt (by omega)]; exact c44, by rw [← hC.at (j := 2) hlt (by omega)]; exact c60⟩ hno], rfl⟩

set_option maxHeartbeats 4000000 in
set_option maxRecDepth 100000 in
theorem c_X6_find (l : Launch) (D : va_G) (g : ClassId × ClassId × ClassId) (hm : Nat) (e : Nat → Nat) (M : Nat → Nat → Int32) (cd : Int32) (mb ak : Bool) (cnt k nl n m md : Nat) (fu : Bool) (L : List Row) (hC : cloRep (M 2) n L) (s p o : Int32) : zM l yX6_find wsX6_find ({ frames := 0, cells := 0, slots := 0, locals := 0 } : Room) D g [.ref hm, .int s, .int p, .int o] [(hm, .inr (6, [.int cd, .int (zb mb), .int (zb ak), .int (nI cnt), .int (nI k), .ref (e 0), .int (nI nl), .ref (e 1), .int (nI n), .ref (e 2), .int (nI m), .int (nI md), .ref (e 3), .ref (e 4), .int (zb fu), .ref (e 5)])), (e 0, .inl (g.1, 240, .inl (M 0))), (e 1, .inl (g.1, 40, .inl (M 1))), (e 2, .inl (g.1, 4200, .inl (M 2))), (e 3, .inl (g.1, 4207, .inl (M 3))), (e 4, .inl (g.1, 2048, .inl (M 4))), (e 5, .inl (g.1, 600, .inl (M 5)))] 0 0 (fun v w1 => v = some (.int (findR L s p o)) ∧ w1 = [(hm, .inr (6, [.int (nI 0), .int (zb mb), .int (zb ak), .int (nI cnt), .int (nI k), .ref (e 0), .int (nI nl), .ref (e 1), .int (nI n), .ref (e 2), .int (nI m), .int (nI md), .ref (e 3), .ref (e 4), .int (zb fu), .ref (e 5)])), (e 0, .inl (g.1, 240, .inl (M 0))), (e 1, .inl (g.1, 40, .inl (M 1))), (e 2, .inl (g.1, 4200, .inl (M 2))), (e 3, .inl (g.1, 4207, .inl (M 3))), (e 4, .inl (g.1, 2048, .inl (M 4))), (e 5, .inl (g.1, 600, .inl (M 5)))]) := by
  refine z_met (cc := cX6_find) (maxL := 5) (ret := (some .int)) (lv := [(0, .ref hm), (1, .int s), (2, .int p), (3, .int o)]) (by decide) rfl (Nat.le_of_ble_eq_true rfl) rfl ?_
  intro X hXD hXg hXl hnm C E
  subst hXD hXg hXl
  have C : zC X cX6_find 5 RX6 wsX6_find ({ frames := 0, cells := 0, slots := 0, locals := 0 } : Room) := C
  have hiX6 : ∀ w ∈ u_ws RX6 TX6 16, w ∈ wsX6_find := by decide +kernel
  have hf36 : Cond.fieldLink RX6 36 "RdfsRulesModel" "code" "I" ∈ wsX6_find := by decide +kernel
  have hn6 := hC.2.1
  refine z_aload_n (q := 1) C 0 rfl rfl dX6_find_0 rfl ?_
  refine z_iconst (q := 2) C k_iconst_0 dX6_find_1 rfl ?_
  refine z_put (q := 5) (ws' := [(hm, .inr (6, [.int (nI 0), .int (zb mb), .int (zb ak), .int (nI cnt), .int (nI k), .ref (e 0), .int (nI nl), .ref (e 1), .int (nI n), .ref (e 2), .int (nI m), .int (nI md), .ref (e 3), .ref (e 4), .int (zb fu), .ref (e 5)])), (e 0, .inl (X.cI, 240, .inl (M 0))), (e 1, .inl (X.cI, 40, .inl (M 1))), (e 2, .inl (X.cI, 4200, .inl (M 2))), (e 3, .inl (X.cI, 4207, .inl (M 3))), (e 4, .inl (X.cI, 2048, .inl (M 4))), (e 5, .inl (X.cI, 600, .inl (M 5)))]) C hiX6 tyX6_ok nmX6 0 0 rfl rfl (by decide) hf36 rfl rfl rfl (Nat.le_of_ble_eq_true rfl) dX6_find_2 rfl rfl ?_
  refine z_iconst (q := 6) C k_iconst_0 dX6_find_5 rfl ?_
  refine z_istore (q := 8) (lv' := [(4, .int (nI 0)), (0, .ref hm), (1, .int s), (2, .int p), (3, .int o)]) C dX6_find_6 rfl (by decide) rfl ?_
  refine z_lv [1, 2, 3, 4, 0] rfl ?_
  exact l_X6_find hm e M mb ak cnt k nl n m md fu L hC s p o C E (n + 1) 0 (by omega) (by omega) (fun g hg => absurd hg (Nat.not_lt_zero g))

set_option maxHeartbeats 4000000 in
set_option maxRecDepth 100000 in
theorem l_X6_marks2 {X : zX} (hm : Nat) (e : Nat → Nat) (M : Nat → Nat → Int32) (cd : Int32) (mb ak : Bool) (cnt k nl n m md : Nat) (fu : Bool) (L : List Row) (hC : cloRep (M 2) n L) (i : Nat) (hin : i < n) (hK : refOK L) (C : zC X cX6_marks 5 RX6 wsX6_marks ({ frames := 0, cells := 0, slots := 0, locals := 0 } : Room)) (E : zE X (some .int) 0 0 (fun v w1 => ∃ f5 : Nat → Int32, (∀ q, q ≤ i → f5 q = zb (marksL L i q)) ∧ v = some (.int (nI (cntM (marksL L i) (i + 1)))) ∧ w1 = [(hm, .inr (6, [.int cd, .int (zb mb), .int (zb ak), .int (nI cnt), .int (nI k), .ref (e 0), .int (nI nl), .ref (e 1), .int (nI n), .ref (e 2), .int (nI m), .int (nI md), .ref (e 3), .ref (e 4), .int (zb fu), .ref (e 5)])), (e 0, .inl (X.cI, 240, .inl (M 0))), (e 1, .inl (X.cI, 40, .inl (M 1))), (e 2, .inl (X.cI, 4200, .inl (M 2))), (e 3, .inl (X.cI, 4207, .inl (M 3))), (e 4, .inl (X.cI, 2048, .inl (M 4))), (e 5, .inl (X.cI, 600, .inl f5))])) : ∀ (z k0 : Nat) (f5 : Nat → Int32) (Mk : Nat → Bool) (c : Nat), k0 ≤ i + 1 → k0 < z → (∀ q, q ≤ i → f5 q = zb (Mk q)) → mkDown L k0 Mk = marksL L i → c + cntM (marksL L i) k0 = cntM (marksL L i) (i + 1) → zW X 5 [(hm, .inr (6, [.int cd, .int (zb mb), .int (zb ak), .int (nI cnt), .int (nI k), .ref (e 0), .int (nI nl), .ref (e 1), .int (nI n), .ref (e 2), .int (nI m), .int (nI md), .ref (e 3), .ref (e 4), .int (zb fu), .ref (e 5)])), (e 0, .inl (X.cI, 240, .inl (M 0))), (e 1, .inl (X.cI, 40, .inl (M 1))), (e 2, .inl (X.cI, 4200, .inl (M 2))), (e 3, .inl (X.cI, 4207, .inl (M 3))), (e 4, .inl (X.cI, 2048, .inl (M 4))), (e 5, .inl (X.cI, 600, .inl f5))] 0 0 31 [(0, .ref hm), (1, .int (nI i)), (2, .int (nI c)), (3, .int (nI k0 + (-1)))] [] := by
  have hiX6 : ∀ w ∈ u_ws RX6 TX6 16, w ∈ wsX6_marks := by decide +kernel
  have hf20 : Cond.fieldLink RX6 20 "RdfsRulesModel" "closure" "[I" ∈ wsX6_marks := by decide +kernel
  have hf29 : Cond.fieldLink RX6 29 "RdfsRulesModel" "rests" "[I" ∈ wsX6_marks := by decide +kernel
  intro z
  induction z with
  | zero =>
    intro k0 f5 Mk c hk hz hM hfin hc
    omega
  | succ z ih =>
    intro k0 f5 Mk c hk hz hM hfin hc
    have hcb := cntM_le (marksL L i) (i + 1)
    have hn6 := hC.2.1
    have hnL := hC.1
    cases k0 with
    | zero =>
      rw [show nI 0 + (-1) = (-1 : Int32) by decide]
      refine z_iload_n (q := 32) C 3 rfl rfl dX6_marks_31 rfl ?_
      refine z_if_lt_i (q := 35) (tgt := 109) C ti_m1 dX6_marks_32 (by decide) rfl (fun c32 => ?_) (fun c32 => ?_)
      · skip
        refine z_iload_n (q := 110) C 2 rfl rfl dX6_marks_109 rfl ?_
        refine z_iret C E (by omega) (by omega) dX6_marks_110 ?_
        exact ⟨f5, fun r hr => by rw [hM r hr, ← hfin]; rfl, by rw [← hc]; rfl, rfl⟩
      · skip
        exact absurd c32 (by decide)
    | succ q =>
      rw [pk_m1 q]
      have hkq : marksL L i q = Mk q := by rw [← hfin]; show mkDown L q (mkStep L Mk q) q = Mk q; rw [mkDown_keep hK (by omega) q _ (by omega) q (Nat.le_refl _) (by omega)]; exact mkStep_keep hK (by omega) (by omega) (Nat.le_refl _) (by omega)
      refine z_iload_n (q := 32) C 3 rfl rfl dX6_marks_31 rfl ?_
      refine z_if_lt_n (q := 35) (tgt := 109) C (by omega) dX6_marks_32 (by decide) rfl (fun c32 => ?_) (fun c32 => ?_)
      · skip
        exact c32.elim
      · skip
        refine z_iload_n (q := 36) C 2 rfl rfl dX6_marks_35 rfl ?_
        refine z_aload_n (q := 37) C 0 rfl rfl dX6_marks_36 rfl ?_
        refine z_get (q := 40) (v := .ref (e 5)) C hiX6 0 15 rfl rfl (by decide) hf29 rfl dX6_marks_37 rfl ?_
        refine z_iload_n (q := 41) C 3 rfl rfl dX6_marks_40 rfl ?_
        refine z_iald (q := 42) C 6 rfl (i := q) (by omega) (by decide) dX6_marks_41 rfl ?_
        rcases Bool.eq_false_or_eq_true (Mk q) with hmk | hmk
        · skip
          refine z_eqi (y := nI 1) (by rw [hM q (by omega), hmk]; rfl) ?_
          refine z_iadd (q := 43) C dX6_marks_42 rfl ?_
          refine z_eqi (y := nI (c + 1)) (nI_add c 1) ?_
          refine z_eqi (y := nI (c + 1)) rfl ?_
          refine z_istore_n (q := 44) (lv' := [(2, .int (nI (c + 1))), (0, .ref hm), (1, .int (nI i)), (3, .int (nI q))]) C rfl dX6_marks_43 rfl (by decide) rfl ?_
          refine z_iconst (q := 45) C k_iconst_4 dX6_marks_44 rfl ?_
          refine z_istore (q := 47) (lv' := [(4, .int (nI 4)), (2, .int (nI (c + 1))), (0, .ref hm), (1, .int (nI i)), (3, .int (nI q))]) C dX6_marks_45 rfl (by decide) rfl ?_
          refine z_iload (q := 49) C 0 rfl dX6_marks_47 rfl ?_
          refine z_bipush (q := 51) C k_bipush_6 dX6_marks_49 rfl ?_
          refine z_icmp_ge_n (q := 54) (tgt := 103) C (by omega) (by omega) dX6_marks_51 (by decide) rfl (fun c51 => ?_) (fun c51 => ?_)
          · exact absurd c51 (by decide)
          · skip
            refine z_aload_n (q := 55) C 2 rfl rfl dX6_marks_54 rfl ?_
            refine z_get (q := 58) (v := .ref (e 5)) C hiX6 0 15 rfl rfl (by decide) hf29 rfl dX6_marks_55 rfl ?_
            refine z_iload_n (q := 59) C 4 rfl rfl dX6_marks_58 rfl ?_
            refine z_iald (q := 60) C 6 rfl (i := q) (by omega) (by decide) dX6_marks_59 rfl ?_
            refine z_eqi (y := nI 1) (by rw [hM q (by omega), hmk]; rfl) ?_
            refine z_iconst (q := 61) C k_iconst_1 dX6_marks_60 rfl ?_
            refine z_icmp_ne_n (q := 64) (tgt := 103) C (by omega) (by omega) dX6_marks_61 (by decide) rfl (fun c61 => ?_) (fun c61 => ?_)
            · exact absurd c61 (by decide)
            · skip
              refine z_aload_n (q := 65) C 2 rfl rfl dX6_marks_64 rfl ?_
              refine z_get (q := 68) (v := .ref (e 2)) C hiX6 0 9 rfl rfl (by decide) hf20 rfl dX6_marks_65 rfl ?_
              refine z_bipush (q := 70) C k_bipush_7 dX6_marks_68 rfl ?_
              refine z_iload_n (q := 71) C 4 rfl rfl dX6_marks_70 rfl ?_
              refine z_imul (q := 72) C dX6_marks_71 rfl ?_
              refine z_eqi (y := nI (7 * q)) (pk_mul 7 q) ?_
              refine z_iload (q := 74) C 0 rfl dX6_marks_72 rfl ?_
              refine z_iadd (q := 75) C dX6_marks_74 rfl ?_
              refine z_eqi (y := nI ((7 * q) + 4)) (nI_add (7 * q) 4) ?_
              refine z_iald (q := 76) C 3 rfl (i := (7 * q) + 4) (by omega) (by decide) dX6_marks_75 rfl ?_
              rcases hK q 4 (by rw [hC.1]; omega) (by omega) with e4 | ⟨m4, hm4, e4⟩
              · skip
                refine z_eqi (y := (-1)) (by rw [hC.at (j := 4) (by omega) (by omega)]; exact e4) ?_
                have hM4 : ∀ r, r ≤ i → (f5) r = zb (mk1 (-1) (Mk) r) := fun r hr => by rw [mk1_none]; exact hM r hr
                refine z_if_lt_i (q := 79) (tgt := 97) C ti_m1 dX6_marks_76 (by decide) rfl (fun c76 => ?_) (fun c76 => ?_)
                · skip
                  refine z_iinc (q := 100) (v := nI 5) (lv' := [(4, .int (nI 5)), (2, .int (nI (c + 1))), (0, .ref hm), (1, .int (nI i)), (3, .int (nI q))]) C 0 dX6_marks_97 rfl rfl (by decide) (by decide) rfl ?_
                  refine z_goto (tgt := 47) C dX6_marks_100 (by decide) ?_
                  refine z_iload (q := 49) C 0 rfl dX6_marks_47 rfl ?_
                  refine z_bipush (q := 51) C k_bipush_6 dX6_marks_49 rfl ?_
                  refine z_icmp_ge_n (q := 54) (tgt := 103) C (by omega) (by omega) dX6_marks_51 (by decide) rfl (fun c51 => ?_) (fun c51 => ?_)
                  · exact absurd c51 (by decide)
                  · skip
                    refine z_aload_n (q := 55) C 2 rfl rfl dX6_marks_54 rfl ?_
                    refine z_get (q := 58) (v := .ref (e 5)) C hiX6 0 15 rfl rfl (by decide) hf29 rfl dX6_marks_55 rfl ?_
                    refine z_iload_n (q := 59) C 4 rfl rfl dX6_marks_58 rfl ?_
                    refine z_iald (q := 60) C 6 rfl (i := q) (by omega) (by decide) dX6_marks_59 rfl ?_
                    refine z_eqi (y := nI 1) (by rw [hM q (by omega), hmk]; rfl) ?_
                    refine z_iconst (q := 61) C k_iconst_1 dX6_marks_60 rfl ?_
                    refine z_icmp_ne_n (q := 64) (tgt := 103) C (by omega) (by omega) dX6_marks_61 (by decide) rfl (fun c61 => ?_) (fun c61 => ?_)
                    · exact absurd c61 (by decide)
                    · skip
                      refine z_aload_n (q := 65) C 2 rfl rfl dX6_marks_64 rfl ?_
                      refine z_get (q := 68) (v := .ref (e 2)) C hiX6 0 9 rfl rfl (by decide) hf20 rfl dX6_marks_65 rfl ?_
                      refine z_bipush (q := 70) C k_bipush_7 dX6_marks_68 rfl ?_
                      refine z_iload_n (q := 71) C 4 rfl rfl dX6_marks_70 rfl ?_
                      refine z_imul (q := 72) C dX6_marks_71 rfl ?_
                      refine z_eqi (y := nI (7 * q)) (pk_mul 7 q) ?_
                      refine z_iload (q := 74) C 0 rfl dX6_marks_72 rfl ?_
                      refine z_iadd (q := 75) C dX6_marks_74 rfl ?_
                      refine z_eqi (y := nI ((7 * q) + 5)) (nI_add (7 * q) 5) ?_
                      refine z_iald (q := 76) C 3 rfl (i := (7 * q) + 5) (by omega) (by decide) dX6_marks_75 rfl ?_
                      rcases hK q 5 (by rw [hC.1]; omega) (by omega) with e5 | ⟨m5, hm5, e5⟩
                      · skip
                        refine z_eqi (y := (-1)) (by rw [hC.at (j := 5) (by omega) (by omega)]; exact e5) ?_
                        have hM5 : ∀ r, r ≤ i → (f5) r = zb (mk1 (-1) (mk1 (-1) (Mk)) r) := fun r hr => by rw [mk1_none]; exact hM4 r hr
                        refine z_if_lt_i (q := 79) (tgt := 97) C ti_m1 dX6_marks_76 (by decide) rfl (fun c76 => ?_) (fun c76 => ?_)
                        · skip
                          refine z_iinc (q := 100) (v := nI 6) (lv' := [(4, .int (nI 6)), (2, .int (nI (c + 1))), (0, .ref hm), (1, .int (nI i)), (3, .int (nI q))]) C 0 dX6_marks_97 rfl rfl (by decide) (by decide) rfl ?_
                          refine z_goto (tgt := 47) C dX6_marks_100 (by decide) ?_
                          refine z_iload (q := 49) C 0 rfl dX6_marks_47 rfl ?_
                          refine z_bipush (q := 51) C k_bipush_6 dX6_marks_49 rfl ?_
                          refine z_icmp_ge_n (q := 54) (tgt := 103) C (by omega) (by omega) dX6_marks_51 (by decide) rfl (fun c51 => ?_) (fun c51 => ?_)
                          · skip
                            refine z_iinc (q := 106) (v := (nI q) + (-1)) (lv' := [(3, .int ((nI q) + (-1))), (4, .int (nI 6)), (2, .int (nI (c + 1))), (0, .ref hm), (1, .int (nI i))]) C 4 dX6_marks_103 rfl rfl rfl (by decide) rfl ?_
                            refine z_goto (tgt := 31) C dX6_marks_106 (by decide) ?_
                            refine z_lv [3, 4, 2, 0] rfl ?_
                            exact ih q (f5) (mk1 (-1) (mk1 (-1) (Mk))) (c + 1) (by omega) (by omega) hM5 (by rw [← hfin]; show mkDown L q _ = mkDown L q (mkStep L Mk q); unfold mkStep; rw [if_pos hmk, e4, e5]) (by rw [← hc, cntM_t (by rw [hkq]; exact hmk)]; omega)
                          · exact absurd c51 (by decide)
                        · skip
                          exact absurd c76 (by decide)
                      · skip
                        refine z_eqi (y := nI m5) (by rw [hC.at (j := 5) (by omega) (by omega)]; exact e5) ?_
                        have hM5 : ∀ r, r ≤ i → (upd (f5) m5 (nI 1)) r = zb (mk1 (nI m5) (mk1 (-1) (Mk)) r) := fun r hr => by rw [mk1_row (by omega) (by omega)]; show (if r = m5 then nI 1 else (f5) r) = _; split; rfl; exact hM4 r hr
                        refine z_if_lt_n (q := 79) (tgt := 97) C (by omega) dX6_marks_76 (by decide) rfl (fun c76 => ?_) (fun c76 => ?_)
                        · skip
                          exact c76.elim
                        · skip
                          refine z_aload_n (q := 80) C 2 rfl rfl dX6_marks_79 rfl ?_
                          refine z_get (q := 83) (v := .ref (e 5)) C hiX6 0 15 rfl rfl (by decide) hf29 rfl dX6_marks_80 rfl ?_
                          refine z_aload_n (q := 84) C 2 rfl rfl dX6_marks_83 rfl ?_
                          refine z_get (q := 87) (v := .ref (e 2)) C hiX6 0 9 rfl rfl (by decide) hf20 rfl dX6_marks_84 rfl ?_
                          refine z_bipush (q := 89) C k_bipush_7 dX6_marks_87 rfl ?_
                          refine z_iload_n (q := 90) C 4 rfl rfl dX6_marks_89 rfl ?_
                          refine z_imul (q := 91) C dX6_marks_90 rfl ?_
                          refine z_eqi (y := nI (7 * q)) (pk_mul 7 q) ?_
                          refine z_iload (q := 93) C 0 rfl dX6_marks_91 rfl ?_
                          refine z_iadd (q := 94) C dX6_marks_93 rfl ?_
                          refine z_eqi (y := nI ((7 * q) + 5)) (nI_add (7 * q) 5) ?_
                          refine z_iald (q := 95) C 3 rfl (i := (7 * q) + 5) (by omega) (by decide) dX6_marks_94 rfl ?_
                          refine z_eqi (y := nI m5) (by rw [hC.at (j := 5) (by omega) (by omega)]; exact e5) ?_
                          refine z_iconst (q := 96) C k_iconst_1 dX6_marks_95 rfl ?_
                          refine z_iast (q := 97) (ws' := [(hm, .inr (6, [.int cd, .int (zb mb), .int (zb ak), .int (nI cnt), .int (nI k), .ref (e 0), .int (nI nl), .ref (e 1), .int (nI n), .ref (e 2), .int (nI m), .int (nI md), .ref (e 3), .ref (e 4), .int (zb fu), .ref (e 5)])), (e 0, .inl (X.cI, 240, .inl (M 0))), (e 1, .inl (X.cI, 40, .inl (M 1))), (e 2, .inl (X.cI, 4200, .inl (M 2))), (e 3, .inl (X.cI, 4207, .inl (M 3))), (e 4, .inl (X.cI, 2048, .inl (M 4))), (e 5, .inl (X.cI, 600, .inl (upd f5 m5 (nI 1))))]) C 6 rfl (i := m5) (by omega) (by decide) dX6_marks_96 rfl rfl ?_
                          refine z_iinc (q := 100) (v := nI 6) (lv' := [(4, .int (nI 6)), (2, .int (nI (c + 1))), (0, .ref hm), (1, .int (nI i)), (3, .int (nI q))]) C 0 dX6_marks_97 rfl rfl (by decide) (by decide) rfl ?_
                          refine z_goto (tgt := 47) C dX6_marks_100 (by decide) ?_
                          refine z_iload (q := 49) C 0 rfl dX6_marks_47 rfl ?_
                          refine z_bipush (q := 51) C k_bipush_6 dX6_marks_49 rfl ?_
                          refine z_icmp_ge_n (q := 54) (tgt := 103) C (by omega) (by omega) dX6_marks_51 (by decide) rfl (fun c51 => ?_) (fun c51 => ?_)
                          · skip
                            refine z_iinc (q := 106) (v := (nI q) + (-1)) (lv' := [(3, .int ((nI q) + (-1))), (4, .int (nI 6)), (2, .int (nI (c + 1))), (0, .ref hm), (1, .int (nI i))]) C 4 dX6_marks_103 rfl rfl rfl (by decide) rfl ?_
                            refine z_goto (tgt := 31) C dX6_marks_106 (by decide) ?_
                            refine z_lv [3, 4, 2, 0] rfl ?_
                            exact ih q (upd f5 m5 (nI 1)) (mk1 (nI m5) (mk1 (-1) (Mk))) (c + 1) (by omega) (by omega) hM5 (by rw [← hfin]; show mkDown L q _ = mkDown L q (mkStep L Mk q); unfold mkStep; rw [if_pos hmk, e4, e5]) (by rw [← hc, cntM_t (by rw [hkq]; exact hmk)]; omega)
                          · exact absurd c51 (by decide)
                · skip
                  exact absurd c76 (by decide)
              · skip
                refine z_eqi (y := nI m4) (by rw [hC.at (j := 4) (by omega) (by omega)]; exact e4) ?_
                have hM4 : ∀ r, r ≤ i → (upd (f5) m4 (nI 1)) r = zb (mk1 (nI m4) (Mk) r) := fun r hr => by rw [mk1_row (by omega) (by omega)]; show (if r = m4 then nI 1 else (f5) r) = _; split; rfl; exact hM r hr
                refine z_if_lt_n (q := 79) (tgt := 97) C (by omega) dX6_marks_76 (by decide) rfl (fun c76 => ?_) (fun c76 => ?_)
                · skip
                  exact c76.elim
                · skip
                  refine z_aload_n (q := 80) C 2 rfl rfl dX6_marks_79 rfl ?_
                  refine z_get (q := 83) (v := .ref (e 5)) C hiX6 0 15 rfl rfl (by decide) hf29 rfl dX6_marks_80 rfl ?_
                  refine z_aload_n (q := 84) C 2 rfl rfl dX6_marks_83 rfl ?_
                  refine z_get (q := 87) (v := .ref (e 2)) C hiX6 0 9 rfl rfl (by decide) hf20 rfl dX6_marks_84 rfl ?_
                  refine z_bipush (q := 89) C k_bipush_7 dX6_marks_87 rfl ?_
                  refine z_iload_n (q := 90) C 4 rfl rfl dX6_marks_89 rfl ?_
                  refine z_imul (q := 91) C dX6_marks_90 rfl ?_
                  refine z_eqi (y := nI (7 * q)) (pk_mul 7 q) ?_
                  refine z_iload (q := 93) C 0 rfl dX6_marks_91 rfl ?_
                  refine z_iadd (q := 94) C dX6_marks_93 rfl ?_
                  refine z_eqi (y := nI ((7 * q) + 4)) (nI_add (7 * q) 4) ?_
                  refine z_iald (q := 95) C 3 rfl (i := (7 * q) + 4) (by omega) (by decide) dX6_marks_94 rfl ?_
                  refine z_eqi (y := nI m4) (by rw [hC.at (j := 4) (by omega) (by omega)]; exact e4) ?_
                  refine z_iconst (q := 96) C k_iconst_1 dX6_marks_95 rfl ?_
                  refine z_iast (q := 97) (ws' := [(hm, .inr (6, [.int cd, .int (zb mb), .int (zb ak), .int (nI cnt), .int (nI k), .ref (e 0), .int (nI nl), .ref (e 1), .int (nI n), .ref (e 2), .int (nI m), .int (nI md), .ref (e 3), .ref (e 4), .int (zb fu), .ref (e 5)])), (e 0, .inl (X.cI, 240, .inl (M 0))), (e 1, .inl (X.cI, 40, .inl (M 1))), (e 2, .inl (X.cI, 4200, .inl (M 2))), (e 3, .inl (X.cI, 4207, .inl (M 3))), (e 4, .inl (X.cI, 2048, .inl (M 4))), (e 5, .inl (X.cI, 600, .inl (upd f5 m4 (nI 1))))]) C 6 rfl (i := m4) (by omega) (by decide) dX6_marks_96 rfl rfl ?_
                  refine z_iinc (q := 100) (v := nI 5) (lv' := [(4, .int (nI 5)), (2, .int (nI (c + 1))), (0, .ref hm), (1, .int (nI i)), (3, .int (nI q))]) C 0 dX6_marks_97 rfl rfl (by decide) (by decide) rfl ?_
                  refine z_goto (tgt := 47) C dX6_marks_100 (by decide) ?_
                  refine z_iload (q := 49) C 0 rfl dX6_marks_47 rfl ?_
                  refine z_bipush (q := 51) C k_bipush_6 dX6_marks_49 rfl ?_
                  refine z_icmp_ge_n (q := 54) (tgt := 103) C (by omega) (by omega) dX6_marks_51 (by decide) rfl (fun c51 => ?_) (fun c51 => ?_)
                  · exact absurd c51 (by decide)
                  · skip
                    refine z_aload_n (q := 55) C 2 rfl rfl dX6_marks_54 rfl ?_
                    refine z_get (q := 58) (v := .ref (e 5)) C hiX6 0 15 rfl rfl (by decide) hf29 rfl dX6_marks_55 rfl ?_
                    refine z_iload_n (q := 59) C 4 rfl rfl dX6_marks_58 rfl ?_
                    refine z_iald (q := 60) C 6 rfl (i := q) (by omega) (by decide) dX6_marks_59 rfl ?_
                    refine z_eqi (y := nI 1) (by rw [show (upd f5 m4 (nI 1)) q = f5 q from pk_un (by omega), hM q (by omega), hmk]; rfl) ?_
                    refine z_iconst (q := 61) C k_iconst_1 dX6_marks_60 rfl ?_
                    refine z_icmp_ne_n (q := 64) (tgt := 103) C (by omega) (by omega) dX6_marks_61 (by decide) rfl (fun c61 => ?_) (fun c61 => ?_)
                    · exact absurd c61 (by decide)
                    · skip
                      refine z_aload_n (q := 65) C 2 rfl rfl dX6_marks_64 rfl ?_
                      refine z_get (q := 68) (v := .ref (e 2)) C hiX6 0 9 rfl rfl (by decide) hf20 rfl dX6_marks_65 rfl ?_
                      refine z_bipush (q := 70) C k_bipush_7 dX6_marks_68 rfl ?_
                      refine z_iload_n (q := 71) C 4 rfl rfl dX6_marks_70 rfl ?_
                      refine z_imul (q := 72) C dX6_marks_71 rfl ?_
                      refine z_eqi (y := nI (7 * q)) (pk_mul 7 q) ?_
                      refine z_iload (q := 74) C 0 rfl dX6_marks_72 rfl ?_
                      refine z_iadd (q := 75) C dX6_marks_74 rfl ?_
                      refine z_eqi (y := nI ((7 * q) + 5)) (nI_add (7 * q) 5) ?_
                      refine z_iald (q := 76) C 3 rfl (i := (7 * q) + 5) (by omega) (by decide) dX6_marks_75 rfl ?_
                      rcases hK q 5 (by rw [hC.1]; omega) (by omega) with e5 | ⟨m5, hm5, e5⟩
                      · skip
                        refine z_eqi (y := (-1)) (by rw [hC.at (j := 5) (by omega) (by omega)]; exact e5) ?_
                        have hM5 : ∀ r, r ≤ i → (upd f5 m4 (nI 1)) r = zb (mk1 (-1) (mk1 (nI m4) (Mk)) r) := fun r hr => by rw [mk1_none]; exact hM4 r hr
                        refine z_if_lt_i (q := 79) (tgt := 97) C ti_m1 dX6_marks_76 (by decide) rfl (fun c76 => ?_) (fun c76 => ?_)
                        · skip
                          refine z_iinc (q := 100) (v := nI 6) (lv' := [(4, .int (nI 6)), (2, .int (nI (c + 1))), (0, .ref hm), (1, .int (nI i)), (3, .int (nI q))]) C 0 dX6_marks_97 rfl rfl (by decide) (by decide) rfl ?_
                          refine z_goto (tgt := 47) C dX6_marks_100 (by decide) ?_
                          refine z_iload (q := 49) C 0 rfl dX6_marks_47 rfl ?_
                          refine z_bipush (q := 51) C k_bipush_6 dX6_marks_49 rfl ?_
                          refine z_icmp_ge_n (q := 54) (tgt := 103) C (by omega) (by omega) dX6_marks_51 (by decide) rfl (fun c51 => ?_) (fun c51 => ?_)
                          · skip
                            refine z_iinc (q := 106) (v := (nI q) + (-1)) (lv' := [(3, .int ((nI q) + (-1))), (4, .int (nI 6)), (2, .int (nI (c + 1))), (0, .ref hm), (1, .int (nI i))]) C 4 dX6_marks_103 rfl rfl rfl (by decide) rfl ?_
                            refine z_goto (tgt := 31) C dX6_marks_106 (by decide) ?_
                            refine z_lv [3, 4, 2, 0] rfl ?_
                            exact ih q (upd f5 m4 (nI 1)) (mk1 (-1) (mk1 (nI m4) (Mk))) (c + 1) (by omega) (by omega) hM5 (by rw [← hfin]; show mkDown L q _ = mkDown L q (mkStep L Mk q); unfold mkStep; rw [if_pos hmk, e4, e5]) (by rw [← hc, cntM_t (by rw [hkq]; exact hmk)]; omega)
                          · exact absurd c51 (by decide)
                        · skip
                          exact absurd c76 (by decide)
                      · skip
                        refine z_eqi (y := nI m5) (by rw [hC.at (j := 5) (by omega) (by omega)]; exact e5) ?_
                        have hM5 : ∀ r, r ≤ i → (upd (upd f5 m4 (nI 1)) m5 (nI 1)) r = zb (mk1 (nI m5) (mk1 (nI m4) (Mk)) r) := fun r hr => by rw [mk1_row (by omega) (by omega)]; show (if r = m5 then nI 1 else (upd f5 m4 (nI 1)) r) = _; split; rfl; exact hM4 r hr
                        refine z_if_lt_n (q := 79) (tgt := 97) C (by omega) dX6_marks_76 (by decide) rfl (fun c76 => ?_) (fun c76 => ?_)
                        · skip
                          exact c76.elim
                        · skip
                          refine z_aload_n (q := 80) C 2 rfl rfl dX6_marks_79 rfl ?_
                          refine z_get (q := 83) (v := .ref (e 5)) C hiX6 0 15 rfl rfl (by decide) hf29 rfl dX6_marks_80 rfl ?_
                          refine z_aload_n (q := 84) C 2 rfl rfl dX6_marks_83 rfl ?_
                          refine z_get (q := 87) (v := .ref (e 2)) C hiX6 0 9 rfl rfl (by decide) hf20 rfl dX6_marks_84 rfl ?_
                          refine z_bipush (q := 89) C k_bipush_7 dX6_marks_87 rfl ?_
                          refine z_iload_n (q := 90) C 4 rfl rfl dX6_marks_89 rfl ?_
                          refine z_imul (q := 91) C dX6_marks_90 rfl ?_
                          refine z_eqi (y := nI (7 * q)) (pk_mul 7 q) ?_
                          refine z_iload (q := 93) C 0 rfl dX6_marks_91 rfl ?_
                          refine z_iadd (q := 94) C dX6_marks_93 rfl ?_
                          refine z_eqi (y := nI ((7 * q) + 5)) (nI_add (7 * q) 5) ?_
                          refine z_iald (q := 95) C 3 rfl (i := (7 * q) + 5) (by omega) (by decide) dX6_marks_94 rfl ?_
                          refine z_eqi (y := nI m5) (by rw [hC.at (j := 5) (by omega) (by omega)]; exact e5) ?_
                          refine z_iconst (q := 96) C k_iconst_1 dX6_marks_95 rfl ?_
                          refine z_iast (q := 97) (ws' := [(hm, .inr (6, [.int cd, .int (zb mb), .int (zb ak), .int (nI cnt), .int (nI k), .ref (e 0), .int (nI nl), .ref (e 1), .int (nI n), .ref (e 2), .int (nI m), .int (nI md), .ref (e 3), .ref (e 4), .int (zb fu), .ref (e 5)])), (e 0, .inl (X.cI, 240, .inl (M 0))), (e 1, .inl (X.cI, 40, .inl (M 1))), (e 2, .inl (X.cI, 4200, .inl (M 2))), (e 3, .inl (X.cI, 4207, .inl (M 3))), (e 4, .inl (X.cI, 2048, .inl (M 4))), (e 5, .inl (X.cI, 600, .inl (upd (upd f5 m4 (nI 1)) m5 (nI 1))))]) C 6 rfl (i := m5) (by omega) (by decide) dX6_marks_96 rfl rfl ?_
                          refine z_iinc (q := 100) (v := nI 6) (lv' := [(4, .int (nI 6)), (2, .int (nI (c + 1))), (0, .ref hm), (1, .int (nI i)), (3, .int (nI q))]) C 0 dX6_marks_97 rfl rfl (by decide) (by decide) rfl ?_
                          refine z_goto (tgt := 47) C dX6_marks_100 (by decide) ?_
                          refine z_iload (q := 49) C 0 rfl dX6_marks_47 rfl ?_
                          refine z_bipush (q := 51) C k_bipush_6 dX6_marks_49 rfl ?_
                          refine z_icmp_ge_n (q := 54) (tgt := 103) C (by omega) (by omega) dX6_marks_51 (by decide) rfl (fun c51 => ?_) (fun c51 => ?_)
                          · skip
                            refine z_iinc (q := 106) (v := (nI q) + (-1)) (lv' := [(3, .int ((nI q) + (-1))), (4, .int (nI 6)), (2, .int (nI (c + 1))), (0, .ref hm), (1, .int (nI i))]) C 4 dX6_marks_103 rfl rfl rfl (by decide) rfl ?_
                            refine z_goto (tgt := 31) C dX6_marks_106 (by decide) ?_
                            refine z_lv [3, 4, 2, 0] rfl ?_
                            exact ih q (upd (upd f5 m4 (nI 1)) m5 (nI 1)) (mk1 (nI m5) (mk1 (nI m4) (Mk))) (c + 1) (by omega) (by omega) hM5 (by rw [← hfin]; show mkDown L q _ = mkDown L q (mkStep L Mk q); unfold mkStep; rw [if_pos hmk, e4, e5]) (by rw [← hc, cntM_t (by rw [hkq]; exact hmk)]; omega)
                          · exact absurd c51 (by decide)
        · skip
          refine z_eqi (y := nI 0) (by rw [hM q (by omega), hmk]; rfl) ?_
          refine z_iadd (q := 43) C dX6_marks_42 rfl ?_
          refine z_eqi (y := nI (c + 0)) (nI_add c 0) ?_
          refine z_eqi (y := nI c) rfl ?_
          refine z_istore_n (q := 44) (lv' := [(2, .int (nI c)), (0, .ref hm), (1, .int (nI i)), (3, .int (nI q))]) C rfl dX6_marks_43 rfl (by decide) rfl ?_
          refine z_iconst (q := 45) C k_iconst_4 dX6_marks_44 rfl ?_
          refine z_istore (q := 47) (lv' := [(4, .int (nI 4)), (2, .int (nI c)), (0, .ref hm), (1, .int (nI i)), (3, .int (nI q))]) C dX6_marks_45 rfl (by decide) rfl ?_
          refine z_iload (q := 49) C 0 rfl dX6_marks_47 rfl ?_
          refine z_bipush (q := 51) C k_bipush_6 dX6_marks_49 rfl ?_
          refine z_icmp_ge_n (q := 54) (tgt := 103) C (by omega) (by omega) dX6_marks_51 (by decide) rfl (fun c51 => ?_) (fun c51 => ?_)
          · exact absurd c51 (by decide)
          · skip
            refine z_aload_n (q := 55) C 2 rfl rfl dX6_marks_54 rfl ?_
            refine z_get (q := 58) (v := .ref (e 5)) C hiX6 0 15 rfl rfl (by decide) hf29 rfl dX6_marks_55 rfl ?_
            refine z_iload_n (q := 59) C 4 rfl rfl dX6_marks_58 rfl ?_
            refine z_iald (q := 60) C 6 rfl (i := q) (by omega) (by decide) dX6_marks_59 rfl ?_
            refine z_eqi (y := nI 0) (by rw [hM q (by omega), hmk]; rfl) ?_
            refine z_iconst (q := 61) C k_iconst_1 dX6_marks_60 rfl ?_
            refine z_icmp_ne_n (q := 64) (tgt := 103) C (by omega) (by omega) dX6_marks_61 (by decide) rfl (fun c61 => ?_) (fun c61 => ?_)
            · skip
              refine z_iinc (q := 106) (v := (nI q) + (-1)) (lv' := [(3, .int ((nI q) + (-1))), (4, .int (nI 4)), (2, .int (nI c)), (0, .ref hm), (1, .int (nI i))]) C 4 dX6_marks_103 rfl rfl rfl (by decide) rfl ?_
              refine z_goto (tgt := 31) C dX6_marks_106 (by decide) ?_
              refine z_lv [3, 4, 2, 0] rfl ?_
              exact ih q f5 Mk c (by omega) (by omega) hM (by rw [← hfin]; show mkDown L q _ = mkDown L q (mkStep L Mk q); unfold mkStep; rw [if_neg (by rw [hmk]; decide)]) (by rw [← hc, cntM_f (by rw [hkq]; exact hmk)])
            · exact absurd c61 (by decide)

set_option maxHeartbeats 4000000 in
set_option maxRecDepth 100000 in
theorem l_X6_marks {X : zX} (hm : Nat) (e : Nat → Nat) (M : Nat → Nat → Int32) (cd : Int32) (mb ak : Bool) (cnt k nl n m md : Nat) (fu : Bool) (L : List Row) (hC : cloRep (M 2) n L) (i : Nat) (hin : i < n) (hK : refOK L) (C : zC X cX6_marks 5 RX6 wsX6_marks ({ frames := 0, cells := 0, slots := 0, locals := 0 } : Room)) (E : zE X (some .int) 0 0 (fun v w1 => ∃ f5 : Nat → Int32, (∀ q, q ≤ i → f5 q = zb (marksL L i q)) ∧ v = some (.int (nI (cntM (marksL L i) (i + 1)))) ∧ w1 = [(hm, .inr (6, [.int cd, .int (zb mb), .int (zb ak), .int (nI cnt), .int (nI k), .ref (e 0), .int (nI nl), .ref (e 1), .int (nI n), .ref (e 2), .int (nI m), .int (nI md), .ref (e 3), .ref (e 4), .int (zb fu), .ref (e 5)])), (e 0, .inl (X.cI, 240, .inl (M 0))), (e 1, .inl (X.cI, 40, .inl (M 1))), (e 2, .inl (X.cI, 4200, .inl (M 2))), (e 3, .inl (X.cI, 4207, .inl (M 3))), (e 4, .inl (X.cI, 2048, .inl (M 4))), (e 5, .inl (X.cI, 600, .inl f5))])) : ∀ (z : Nat) (r : Nat) (f5 : Nat → Int32), r ≤ i → i < r + z → (∀ q, q < r → f5 q = nI 0) → zW X 5 [(hm, .inr (6, [.int cd, .int (zb mb), .int (zb ak), .int (nI cnt), .int (nI k), .ref (e 0), .int (nI nl), .ref (e 1), .int (nI n), .ref (e 2), .int (nI m), .int (nI md), .ref (e 3), .ref (e 4), .int (zb fu), .ref (e 5)])), (e 0, .inl (X.cI, 240, .inl (M 0))), (e 1, .inl (X.cI, 40, .inl (M 1))), (e 2, .inl (X.cI, 4200, .inl (M 2))), (e 3, .inl (X.cI, 4207, .inl (M 3))), (e 4, .inl (X.cI, 2048, .inl (M 4))), (e 5, .inl (X.cI, 600, .inl f5))] 0 0 2 [(0, .ref hm), (1, .int (nI i)), (2, .int (nI r))] [] := by
  have hiX6 : ∀ w ∈ u_ws RX6 TX6 16, w ∈ wsX6_marks := by decide +kernel
  have hf29 : Cond.fieldLink RX6 29 "RdfsRulesModel" "rests" "[I" ∈ wsX6_marks := by decide +kernel
  intro z
  induction z with
  | zero =>
    intro r f5 hr hz hM
    exfalso
    omega
  | succ z ih =>
    intro r f5 hr hz hM
    have hn6 := hC.2.1
    refine z_iload_n (q := 3) C 2 rfl rfl dX6_marks_2 rfl ?_
    refine z_iload_n (q := 4) C 1 rfl rfl dX6_marks_3 rfl ?_
    refine z_icmp_ge_n (q := 7) (tgt := 20) C (by omega) (by omega) dX6_marks_4 (by decide) rfl (fun c4 => ?_) (fun c4 => ?_)
    · skip
      refine z_aload_n (q := 21) C 0 rfl rfl dX6_marks_20 rfl ?_
      refine z_get (q := 24) (v := .ref (e 5)) C hiX6 0 15 rfl rfl (by decide) hf29 rfl dX6_marks_21 rfl ?_
      refine z_iload_n (q := 25) C 1 rfl rfl dX6_marks_24 rfl ?_
      refine z_iconst (q := 26) C k_iconst_1 dX6_marks_25 rfl ?_
      refine z_iast (q := 27) (ws' := [(hm, .inr (6, [.int cd, .int (zb mb), .int (zb ak), .int (nI cnt), .int (nI k), .ref (e 0), .int (nI nl), .ref (e 1), .int (nI n), .ref (e 2), .int (nI m), .int (nI md), .ref (e 3), .ref (e 4), .int (zb fu), .ref (e 5)])), (e 0, .inl (X.cI, 240, .inl (M 0))), (e 1, .inl (X.cI, 40, .inl (M 1))), (e 2, .inl (X.cI, 4200, .inl (M 2))), (e 3, .inl (X.cI, 4207, .inl (M 3))), (e 4, .inl (X.cI, 2048, .inl (M 4))), (e 5, .inl (X.cI, 600, .inl (upd f5 i (nI 1))))]) C 6 rfl (i := i) (by omega) (by decide) dX6_marks_26 rfl rfl ?_
      refine z_iconst (q := 28) C k_iconst_0 dX6_marks_27 rfl ?_
      refine z_istore_n (q := 29) (lv' := [(2, .int (nI 0)), (0, .ref hm), (1, .int (nI i))]) C rfl dX6_marks_28 rfl (by decide) rfl ?_
      refine z_iload_n (q := 30) C 2 rfl rfl dX6_marks_29 rfl ?_
      refine z_istore_n (q := 31) (lv' := [(3, .int (nI i)), (2, .int (nI 0)), (0, .ref hm), (1, .int (nI i))]) C rfl dX6_marks_30 rfl (by decide) rfl ?_
      refine z_lv [2, 3, 1, 0] rfl ?_
      have key := l_X6_marks2 hm e M cd mb ak cnt k nl n m md fu L hC i hin hK C E (i + 2) (i + 1) (upd f5 i (nI 1)) (fun q => decide (q = i)) 0 (by omega) (by omega) (fun q hq => by show (if q = i then nI 1 else f5 q) = _; split; exact zb_is1 (decide_eq_true (by assumption)); rw [hM q (by omega)]; exact zb_is0 (decide_eq_false (by assumption))) rfl (by omega)
      rw [pk_m1 i] at key
      exact key
    · skip
      refine z_aload_n (q := 8) C 0 rfl rfl dX6_marks_7 rfl ?_
      refine z_get (q := 11) (v := .ref (e 5)) C hiX6 0 15 rfl rfl (by decide) hf29 rfl dX6_marks_8 rfl ?_
      refine z_iload_n (q := 12) C 2 rfl rfl dX6_marks_11 rfl ?_
      refine z_iconst (q := 13) C k_iconst_0 dX6_marks_12 rfl ?_
      refine z_iast (q := 14) (ws' := [(hm, .inr (6, [.int cd, .int (zb mb), .int (zb ak), .int (nI cnt), .int (nI k), .ref (e 0), .int (nI nl), .ref (e 1), .int (nI n), .ref (e 2), .int (nI m), .int (nI md), .ref (e 3), .ref (e 4), .int (zb fu), .ref (e 5)])), (e 0, .inl (X.cI, 240, .inl (M 0))), (e 1, .inl (X.cI, 40, .inl (M 1))), (e 2, .inl (X.cI, 4200, .inl (M 2))), (e 3, .inl (X.cI, 4207, .inl (M 3))), (e 4, .inl (X.cI, 2048, .inl (M 4))), (e 5, .inl (X.cI, 600, .inl (upd f5 r (nI 0))))]) C 6 rfl (i := r) (by omega) (by decide) dX6_marks_13 rfl rfl ?_
      refine z_iinc (q := 17) (v := nI (r + 1)) (lv' := [(2, .int (nI (r + 1))), (0, .ref hm), (1, .int (nI i))]) C 2 dX6_marks_14 rfl rfl (k_inc1 r) (by decide) rfl ?_
      refine z_goto (tgt := 2) C dX6_marks_17 (by decide) ?_
      refine z_lv [1, 2, 0] rfl ?_
      exact ih (r + 1) (upd f5 r (nI 0)) (by omega) (by omega) (fun q hq => by show (if q = r then nI 0 else f5 q) = nI 0; split; rfl; exact hM q (by omega))

set_option maxHeartbeats 4000000 in
set_option maxRecDepth 100000 in
theorem c_X6_marks (l : Launch) (D : va_G) (g : ClassId × ClassId × ClassId) (hm : Nat) (e : Nat → Nat) (M : Nat → Nat → Int32) (cd : Int32) (mb ak : Bool) (cnt k nl n m md : Nat) (fu : Bool) (L : List Row) (hC : cloRep (M 2) n L) (i : Nat) (hin : i < n) (hK : refOK L) : zM l yX6_marks wsX6_marks ({ frames := 0, cells := 0, slots := 0, locals := 0 } : Room) D g [.ref hm, .int (nI i)] [(hm, .inr (6, [.int cd, .int (zb mb), .int (zb ak), .int (nI cnt), .int (nI k), .ref (e 0), .int (nI nl), .ref (e 1), .int (nI n), .ref (e 2), .int (nI m), .int (nI md), .ref (e 3), .ref (e 4), .int (zb fu), .ref (e 5)])), (e 0, .inl (g.1, 240, .inl (M 0))), (e 1, .inl (g.1, 40, .inl (M 1))), (e 2, .inl (g.1, 4200, .inl (M 2))), (e 3, .inl (g.1, 4207, .inl (M 3))), (e 4, .inl (g.1, 2048, .inl (M 4))), (e 5, .inl (g.1, 600, .inl (M 5)))] 0 0 (fun v w1 => ∃ f5 : Nat → Int32, (∀ q, q ≤ i → f5 q = zb (marksL L i q)) ∧ v = some (.int (nI (cntM (marksL L i) (i + 1)))) ∧ w1 = [(hm, .inr (6, [.int cd, .int (zb mb), .int (zb ak), .int (nI cnt), .int (nI k), .ref (e 0), .int (nI nl), .ref (e 1), .int (nI n), .ref (e 2), .int (nI m), .int (nI md), .ref (e 3), .ref (e 4), .int (zb fu), .ref (e 5)])), (e 0, .inl (g.1, 240, .inl (M 0))), (e 1, .inl (g.1, 40, .inl (M 1))), (e 2, .inl (g.1, 4200, .inl (M 2))), (e 3, .inl (g.1, 4207, .inl (M 3))), (e 4, .inl (g.1, 2048, .inl (M 4))), (e 5, .inl (g.1, 600, .inl f5))]) := by
  refine z_met (cc := cX6_marks) (maxL := 5) (ret := (some .int)) (lv := [(0, .ref hm), (1, .int (nI i))]) (by decide) rfl (Nat.le_of_ble_eq_true rfl) rfl ?_
  intro X hXD hXg hXl hnm C E
  subst hXD hXg hXl
  have C : zC X cX6_marks 5 RX6 wsX6_marks ({ frames := 0, cells := 0, slots := 0, locals := 0 } : Room) := C
  have hn6 := hC.2.1
  refine z_iconst (q := 1) C k_iconst_0 dX6_marks_0 rfl ?_
  refine z_istore_n (q := 2) (lv' := [(2, .int (nI 0)), (0, .ref hm), (1, .int (nI i))]) C rfl dX6_marks_1 rfl (by decide) rfl ?_
  refine z_lv [1, 2, 0] rfl ?_
  exact l_X6_marks hm e M cd mb ak cnt k nl n m md fu L hC i hin hK C E (i + 1) 0 (M 5) (by omega) (by omega) (fun q hq => absurd hq (Nat.not_lt_zero q))
