set_option maxHeartbeats 4000000 in
set_option maxRecDepth 100000 in
theorem c_X6_trace (l : Launch) (D : va_G) (g : ClassId × ClassId × ClassId) (hm : Nat) (e : Nat → Nat) (M : Nat → Nat → Int32) (cd : Int32) (mb ak : Bool) (cnt k nl n m md : Nat) (fu : Bool) (L : List Row) (hC : cloRep (M 2) n L) (hK : refOK L) (i : Int32) : zM l yX6_trace wsX6_trace ({ frames := 1, cells := 0, slots := 0, locals := 24 } : Room) D g [.ref hm, .int i] [(hm, .inr (6, [.int cd, .int (zb mb), .int (zb ak), .int (nI cnt), .int (nI k), .ref (e 0), .int (nI nl), .ref (e 1), .int (nI n), .ref (e 2), .int (nI m), .int (nI md), .ref (e 3), .ref (e 4), .int (zb fu), .ref (e 5)])), (e 0, .inl (g.1, 240, .inl (M 0))), (e 1, .inl (g.1, 40, .inl (M 1))), (e 2, .inl (g.1, 4200, .inl (M 2))), (e 3, .inl (g.1, 4207, .inl (M 3))), (e 4, .inl (g.1, 2048, .inl (M 4))), (e 5, .inl (g.1, 600, .inl (M 5)))] 0 0 (fun v w1 => (cdRow L i = 1 ∧ v = some (.int (nI 0)) ∧ w1 = [(hm, .inr (6, [.int (nI 1), .int (zb mb), .int (zb ak), .int (nI cnt), .int (nI k), .ref (e 0), .int (nI nl), .ref (e 1), .int (nI n), .ref (e 2), .int (nI m), .int (nI md), .ref (e 3), .ref (e 4), .int (zb fu), .ref (e 5)])), (e 0, .inl (g.1, 240, .inl (M 0))), (e 1, .inl (g.1, 40, .inl (M 1))), (e 2, .inl (g.1, 4200, .inl (M 2))), (e 3, .inl (g.1, 4207, .inl (M 3))), (e 4, .inl (g.1, 2048, .inl (M 4))), (e 5, .inl (g.1, 600, .inl (M 5)))]) ∨ (cdRow L i = 0 ∧ ∃ f5 : Nat → Int32, v = some (.int (vaTra L i)) ∧ w1 = [(hm, .inr (6, [.int (nI 0), .int (zb mb), .int (zb ak), .int (nI cnt), .int (nI k), .ref (e 0), .int (nI nl), .ref (e 1), .int (nI n), .ref (e 2), .int (nI m), .int (nI md), .ref (e 3), .ref (e 4), .int (zb fu), .ref (e 5)])), (e 0, .inl (g.1, 240, .inl (M 0))), (e 1, .inl (g.1, 40, .inl (M 1))), (e 2, .inl (g.1, 4200, .inl (M 2))), (e 3, .inl (g.1, 4207, .inl (M 3))), (e 4, .inl (g.1, 2048, .inl (M 4))), (e 5, .inl (g.1, 600, .inl f5))])) := by
  refine z_met (cc := cX6_trace) (maxL := 2) (ret := (some .int)) (lv := [(0, .ref hm), (1, .int i)]) (by decide) rfl (Nat.le_of_ble_eq_true rfl) rfl ?_
  intro X hXD hXg hXl hnm C E
  subst hXD hXg hXl
  have C : zC X cX6_trace 2 RX6 wsX6_trace ({ frames := 1, cells := 0, slots := 0, locals := 24 } : Room) := C
  have hiX6 : ∀ w ∈ u_ws RX6 TX6 16, w ∈ wsX6_trace := by decide +kernel
  have hf109 : Cond.fieldLink RX6 109 "RdfsRulesModel" "rows" "I" ∈ wsX6_trace := by decide +kernel
  have hn6 := hC.2.1
  refine z_aload_n (q := 1) C 0 rfl rfl dX6_trace_0 rfl ?_
  refine z_iload_n (q := 2) C 1 rfl rfl dX6_trace_1 rfl ?_
  refine z_if_lt_i (q := 5) (tgt := 13) C rfl dX6_trace_2 (by decide) rfl (fun c2 => ?_) (fun c2 => ?_)
  · skip
    refine z_iconst (q := 14) C k_iconst_1 dX6_trace_13 rfl ?_
    refine z_goto (tgt := 18) C dX6_trace_14 (by decide) ?_
    refine z_callV (q := 21) (n := 1) (As := [.int (nI 1)]) (rest := []) (wr := [(e 0, .inl (X.cI, 240, .inl (M 0))), (e 1, .inl (X.cI, 40, .inl (M 1))), (e 2, .inl (X.cI, 4200, .inl (M 2))), (e 3, .inl (X.cI, 4207, .inl (M 3))), (e 4, .inl (X.cI, 2048, .inl (M 4))), (e 5, .inl (X.cI, 600, .inl (M 5)))]) C (c_X6_refuses X.l X.D X.2.1 hm e M cd mb ak cnt k nl n m md fu 1 (by omega)) gX6_trace_X6_refuses rfl rfl rfl (by decide +kernel) (by decide) ⟨by first | decide | omega, by first | decide | omega⟩ 0 6 rfl rfl [0] [1, 2, 3, 4, 5, 6] rfl rfl (by decide) (by decide) (by decide) rfl rfl (Nat.le_of_ble_eq_true rfl) dX6_trace_18 rfl (fun v w1 hp => ?_)
    obtain ⟨rfl, rfl⟩ := hp
    show zW X 2 [(e 0, .inl (X.cI, 240, .inl (M 0))), (e 1, .inl (X.cI, 40, .inl (M 1))), (e 2, .inl (X.cI, 4200, .inl (M 2))), (e 3, .inl (X.cI, 4207, .inl (M 3))), (e 4, .inl (X.cI, 2048, .inl (M 4))), (e 5, .inl (X.cI, 600, .inl (M 5))), (hm, .inr (6, [.int (nI 1), .int (zb mb), .int (zb ak), .int (nI cnt), .int (nI k), .ref (e 0), .int (nI nl), .ref (e 1), .int (nI n), .ref (e 2), .int (nI m), .int (nI md), .ref (e 3), .ref (e 4), .int (zb fu), .ref (e 5)]))] _ _ 21 _ [.int (zb (decide (0 < 1)))]
    refine z_ws (ws' := [(hm, .inr (6, [.int (nI 1), .int (zb mb), .int (zb ak), .int (nI cnt), .int (nI k), .ref (e 0), .int (nI nl), .ref (e 1), .int (nI n), .ref (e 2), .int (nI m), .int (nI md), .ref (e 3), .ref (e 4), .int (zb fu), .ref (e 5)])), (e 0, .inl (X.cI, 240, .inl (M 0))), (e 1, .inl (X.cI, 40, .inl (M 1))), (e 2, .inl (X.cI, 4200, .inl (M 2))), (e 3, .inl (X.cI, 4207, .inl (M 3))), (e 4, .inl (X.cI, 2048, .inl (M 4))), (e 5, .inl (X.cI, 600, .inl (M 5)))]) [6, 0, 1, 2, 3, 4, 5] (by decide) rfl ?_
    refine z_if_eq_b (q := 24) (tgt := 28) C dX6_trace_21 (by decide) rfl (fun c21 => ?_) (fun c21 => ?_)
    · skip
      exact absurd c21 (by decide)
    · skip
      refine z_iconst (q := 25) C k_iconst_0 dX6_trace_24 rfl ?_
      refine z_goto (tgt := 33) C dX6_trace_25 (by decide) ?_
      refine z_iret C E (by omega) (by omega) dX6_trace_33 ?_
      refine Or.inl ⟨if_neg (fun z9 => ?_), rfl, rfl⟩
      have := of_decide_eq_true z9
      rw [hC.1] at this
      omega
  · skip
    refine z_iload_n (q := 6) C 1 rfl rfl dX6_trace_5 rfl ?_
    refine z_aload_n (q := 7) C 0 rfl rfl dX6_trace_6 rfl ?_
    refine z_get (q := 10) (v := .int (nI n)) C hiX6 0 8 rfl rfl (by decide) hf109 rfl dX6_trace_7 rfl ?_
    refine z_icmp_lt_i (q := 13) (tgt := 17) C rfl (nI_toInt (n := n) (by omega)) dX6_trace_10 (by decide) rfl (fun c10 => ?_) (fun c10 => ?_)
    · skip
      obtain ⟨j, hj, rfl⟩ := row_of c2 c10
      refine z_iconst (q := 18) C k_iconst_0 dX6_trace_17 rfl ?_
      refine z_callV (q := 21) (n := 1) (As := [.int (nI 0)]) (rest := []) (wr := [(e 0, .inl (X.cI, 240, .inl (M 0))), (e 1, .inl (X.cI, 40, .inl (M 1))), (e 2, .inl (X.cI, 4200, .inl (M 2))), (e 3, .inl (X.cI, 4207, .inl (M 3))), (e 4, .inl (X.cI, 2048, .inl (M 4))), (e 5, .inl (X.cI, 600, .inl (M 5)))]) C (c_X6_refuses X.l X.D X.2.1 hm e M cd mb ak cnt k nl n m md fu 0 (by omega)) gX6_trace_X6_refuses rfl rfl rfl (by decide +kernel) (by decide) ⟨by first | decide | omega, by first | decide | omega⟩ 0 6 rfl rfl [0] [1, 2, 3, 4, 5, 6] rfl rfl (by decide) (by decide) (by decide) rfl rfl (Nat.le_of_ble_eq_true rfl) dX6_trace_18 rfl (fun v w1 hp => ?_)
      obtain ⟨rfl, rfl⟩ := hp
      show zW X 2 [(e 0, .inl (X.cI, 240, .inl (M 0))), (e 1, .inl (X.cI, 40, .inl (M 1))), (e 2, .inl (X.cI, 4200, .inl (M 2))), (e 3, .inl (X.cI, 4207, .inl (M 3))), (e 4, .inl (X.cI, 2048, .inl (M 4))), (e 5, .inl (X.cI, 600, .inl (M 5))), (hm, .inr (6, [.int (nI 0), .int (zb mb), .int (zb ak), .int (nI cnt), .int (nI k), .ref (e 0), .int (nI nl), .ref (e 1), .int (nI n), .ref (e 2), .int (nI m), .int (nI md), .ref (e 3), .ref (e 4), .int (zb fu), .ref (e 5)]))] _ _ 21 _ [.int (zb (decide (0 < 0)))]
      refine z_ws (ws' := [(hm, .inr (6, [.int (nI 0), .int (zb mb), .int (zb ak), .int (nI cnt), .int (nI k), .ref (e 0), .int (nI nl), .ref (e 1), .int (nI n), .ref (e 2), .int (nI m), .int (nI md), .ref (e 3), .ref (e 4), .int (zb fu), .ref (e 5)])), (e 0, .inl (X.cI, 240, .inl (M 0))), (e 1, .inl (X.cI, 40, .inl (M 1))), (e 2, .inl (X.cI, 4200, .inl (M 2))), (e 3, .inl (X.cI, 4207, .inl (M 3))), (e 4, .inl (X.cI, 2048, .inl (M 4))), (e 5, .inl (X.cI, 600, .inl (M 5)))]) [6, 0, 1, 2, 3, 4, 5] (by decide) rfl ?_
      refine z_if_eq_b (q := 24) (tgt := 28) C dX6_trace_21 (by decide) rfl (fun c21 => ?_) (fun c21 => ?_)
      · skip
        refine z_aload_n (q := 29) C 0 rfl rfl dX6_trace_28 rfl ?_
        refine z_iload_n (q := 30) C 1 rfl rfl dX6_trace_29 rfl ?_
        refine z_callV (q := 33) (n := 1) (As := [.int (nI j)]) (rest := []) (wr := []) C (c_X6_marks X.l X.D X.2.1 hm e M (nI 0) mb ak cnt k nl n m md fu L hC j hj hK) gX6_trace_X6_marks rfl rfl rfl (by decide +kernel) (by decide) ⟨by first | decide | omega, by first | decide | omega⟩ 0 6 rfl rfl [0, 1, 2, 3, 4, 5, 6] [] rfl rfl (by decide) (by decide) (by decide) rfl rfl (Nat.le_of_ble_eq_true rfl) dX6_trace_30 rfl (fun v w1 hp => ?_)
        obtain ⟨f5, hf5, rfl, rfl⟩ := hp
        show zW X 2 [(hm, .inr (6, [.int (nI 0), .int (zb mb), .int (zb ak), .int (nI cnt), .int (nI k), .ref (e 0), .int (nI nl), .ref (e 1), .int (nI n), .ref (e 2), .int (nI m), .int (nI md), .ref (e 3), .ref (e 4), .int (zb fu), .ref (e 5)])), (e 0, .inl (X.cI, 240, .inl (M 0))), (e 1, .inl (X.cI, 40, .inl (M 1))), (e 2, .inl (X.cI, 4200, .inl (M 2))), (e 3, .inl (X.cI, 4207, .inl (M 3))), (e 4, .inl (X.cI, 2048, .inl (M 4))), (e 5, .inl (X.cI, 600, .inl f5))] _ _ 33 _ [.int (nI (cntM (marksL L j) (j + 1)))]
        refine z_iret C E (by omega) (by omega) dX6_trace_33 ?_
        exact Or.inr ⟨if_pos (by rw [hC.1]; exact decide_eq_true ⟨c2, c10⟩), f5, by unfold vaTra; rw [nI_tn (by omega)], rfl⟩
      · skip
        exact absurd c21 (by decide)
    · skip
      refine z_iconst (q := 14) C k_iconst_1 dX6_trace_13 rfl ?_
      refine z_goto (tgt := 18) C dX6_trace_14 (by decide) ?_
      refine z_callV (q := 21) (n := 1) (As := [.int (nI 1)]) (rest := []) (wr := [(e 0, .inl (X.cI, 240, .inl (M 0))), (e 1, .inl (X.cI, 40, .inl (M 1))), (e 2, .inl (X.cI, 4200, .inl (M 2))), (e 3, .inl (X.cI, 4207, .inl (M 3))), (e 4, .inl (X.cI, 2048, .inl (M 4))), (e 5, .inl (X.cI, 600, .inl (M 5)))]) C (c_X6_refuses X.l X.D X.2.1 hm e M cd mb ak cnt k nl n m md fu 1 (by omega)) gX6_trace_X6_refuses rfl rfl rfl (by decide +kernel) (by decide) ⟨by first | decide | omega, by first | decide | omega⟩ 0 6 rfl rfl [0] [1, 2, 3, 4, 5, 6] rfl rfl (by decide) (by decide) (by decide) rfl rfl (Nat.le_of_ble_eq_true rfl) dX6_trace_18 rfl (fun v w1 hp => ?_)
      obtain ⟨rfl, rfl⟩ := hp
      show zW X 2 [(e 0, .inl (X.cI, 240, .inl (M 0))), (e 1, .inl (X.cI, 40, .inl (M 1))), (e 2, .inl (X.cI, 4200, .inl (M 2))), (e 3, .inl (X.cI, 4207, .inl (M 3))), (e 4, .inl (X.cI, 2048, .inl (M 4))), (e 5, .inl (X.cI, 600, .inl (M 5))), (hm, .inr (6, [.int (nI 1), .int (zb mb), .int (zb ak), .int (nI cnt), .int (nI k), .ref (e 0), .int (nI nl), .ref (e 1), .int (nI n), .ref (e 2), .int (nI m), .int (nI md), .ref (e 3), .ref (e 4), .int (zb fu), .ref (e 5)]))] _ _ 21 _ [.int (zb (decide (0 < 1)))]
      refine z_ws (ws' := [(hm, .inr (6, [.int (nI 1), .int (zb mb), .int (zb ak), .int (nI cnt), .int (nI k), .ref (e 0), .int (nI nl), .ref (e 1), .int (nI n), .ref (e 2), .int (nI m), .int (nI md), .ref (e 3), .ref (e 4), .int (zb fu), .ref (e 5)])), (e 0, .inl (X.cI, 240, .inl (M 0))), (e 1, .inl (X.cI, 40, .inl (M 1))), (e 2, .inl (X.cI, 4200, .inl (M 2))), (e 3, .inl (X.cI, 4207, .inl (M 3))), (e 4, .inl (X.cI, 2048, .inl (M 4))), (e 5, .inl (X.cI, 600, .inl (M 5)))]) [6, 0, 1, 2, 3, 4, 5] (by decide) rfl ?_
      refine z_if_eq_b (q := 24) (tgt := 28) C dX6_trace_21 (by decide) rfl (fun c21 => ?_) (fun c21 => ?_)
      · skip
        exact absurd c21 (by decide)
      · skip
        refine z_iconst (q := 25) C k_iconst_0 dX6_trace_24 rfl ?_
        refine z_goto (tgt := 33) C dX6_trace_25 (by decide) ?_
        refine z_iret C E (by omega) (by omega) dX6_trace_33 ?_
        refine Or.inl ⟨if_neg (fun z9 => ?_), rfl, rfl⟩
        have := of_decide_eq_true z9
        rw [hC.1] at this
        omega

theorem nthUp_none {M : Nat → Bool} {x : Int32} : ∀ (t row b : Nat), cntM M (row + t) < 2 ^ 31 → b = cntM M row → (x.toInt < (b : Int) ∨ (cntM M (row + t) : Int) ≤ x.toInt) → nthUp M x t row b = (-1)
  | 0, _, _, _, _, _ => rfl
  | t + 1, row, b, h2, hb, h => by
    have mono : ∀ p q, p ≤ q → cntM M p ≤ cntM M q := fun p q hpq => by
      induction q with
      | zero => rw [show p = 0 by omega]; exact Nat.le_refl _
      | succ q ih =>
        rcases Nat.lt_or_ge p (q + 1) with c | c
        · exact Nat.le_trans (ih (by omega)) (Nat.le_add_right _ _)
        · rw [show p = q + 1 by omega]; exact Nat.le_refl _
    have hm := mono (row + 1) (row + (t + 1)) (by omega)
    rw [show row + (t + 1) = row + 1 + t by omega] at h h2 hm
    show (if M row = true then (if nI b = x then nI row else nthUp M x t (row + 1) (b + 1)) else nthUp M x t (row + 1) b) = (-1)
    split
    · rename_i c
      have e := cntM_t c
      rw [if_neg (fun z => by rw [← z, nI_toInt (by omega)] at h; omega)]
      exact nthUp_none t (row + 1) (b + 1) h2 (by omega) (by omega)
    · rename_i c
      have e := cntM_f (M := M) (k := row) (by cases z : M row with | true => exact absurd z c | false => rfl)
      exact nthUp_none t (row + 1) b h2 (by omega) h

theorem mono9 (M : Nat → Bool) (p q : Nat) (hpq : p ≤ q) : cntM M p ≤ cntM M q := by
  induction q with
  | zero => rw [show p = 0 by omega]; exact Nat.le_refl _
  | succ q ih =>
    rcases Nat.lt_or_ge p (q + 1) with c | c
    · exact Nat.le_trans (ih (by omega)) (Nat.le_add_right _ _)
    · rw [show p = q + 1 by omega]; exact Nat.le_refl _
set_option maxHeartbeats 4000000 in
set_option maxRecDepth 100000 in
theorem l_X6_proof {X : zX} (hm : Nat) (e : Nat → Nat) (M : Nat → Nat → Int32) (cd : Int32) (mb ak : Bool) (cnt k nl n m md : Nat) (fu : Bool) (L : List Row) (hC : cloRep (M 2) n L) (hK : refOK L) (j : Nat) (hj : j < n) (hcd : cdRow L (nI j) = 0) (f5 : Nat → Int32) (hf5 : ∀ q, q ≤ j → f5 q = zb (marksL L j q)) (y : Nat) (hy : y < cntM (marksL L j) (j + 1)) (C : zC X cX6_proof 6 RX6 wsX6_proof ({ frames := 1, cells := 0, slots := 0, locals := 24 } : Room)) (E : zE X (some .int) 0 0 (fun v w1 => (cdRow L (nI j) = 1 ∧ v = some (.int (nI 0)) ∧ w1 = [(hm, .inr (6, [.int (nI 1), .int (zb mb), .int (zb ak), .int (nI cnt), .int (nI k), .ref (e 0), .int (nI nl), .ref (e 1), .int (nI n), .ref (e 2), .int (nI m), .int (nI md), .ref (e 3), .ref (e 4), .int (zb fu), .ref (e 5)])), (e 0, .inl (X.cI, 240, .inl (M 0))), (e 1, .inl (X.cI, 40, .inl (M 1))), (e 2, .inl (X.cI, 4200, .inl (M 2))), (e 3, .inl (X.cI, 4207, .inl (M 3))), (e 4, .inl (X.cI, 2048, .inl (M 4))), (e 5, .inl (X.cI, 600, .inl (M 5)))]) ∨ (cdRow L (nI j) = 0 ∧ ∃ f5 : Nat → Int32, v = some (.int (vaPro L (nI j) (nI y))) ∧ w1 = [(hm, .inr (6, [.int (nI 0), .int (zb mb), .int (zb ak), .int (nI cnt), .int (nI k), .ref (e 0), .int (nI nl), .ref (e 1), .int (nI n), .ref (e 2), .int (nI m), .int (nI md), .ref (e 3), .ref (e 4), .int (zb fu), .ref (e 5)])), (e 0, .inl (X.cI, 240, .inl (M 0))), (e 1, .inl (X.cI, 40, .inl (M 1))), (e 2, .inl (X.cI, 4200, .inl (M 2))), (e 3, .inl (X.cI, 4207, .inl (M 3))), (e 4, .inl (X.cI, 2048, .inl (M 4))), (e 5, .inl (X.cI, 600, .inl f5))]))) : ∀ (z : Nat) (row : Nat), j + 1 < row + z → cntM (marksL L j) row ≤ y → nthUp (marksL L j) (nI y) (j + 1 - row) row (cntM (marksL L j) row) = nthUp (marksL L j) (nI y) (j + 1) 0 0 → zW X 6 [(hm, .inr (6, [.int (nI 0), .int (zb mb), .int (zb ak), .int (nI cnt), .int (nI k), .ref (e 0), .int (nI nl), .ref (e 1), .int (nI n), .ref (e 2), .int (nI m), .int (nI md), .ref (e 3), .ref (e 4), .int (zb fu), .ref (e 5)])), (e 0, .inl (X.cI, 240, .inl (M 0))), (e 1, .inl (X.cI, 40, .inl (M 1))), (e 2, .inl (X.cI, 4200, .inl (M 2))), (e 3, .inl (X.cI, 4207, .inl (M 3))), (e 4, .inl (X.cI, 2048, .inl (M 4))), (e 5, .inl (X.cI, 600, .inl f5))] 0 0 49 [(0, .ref hm), (4, .int (nI (y - cntM (marksL L j) row))), (5, .int (nI row))] [] := by
  have hiX6 : ∀ w ∈ u_ws RX6 TX6 16, w ∈ wsX6_proof := by decide +kernel
  have hf29 : Cond.fieldLink RX6 29 "RdfsRulesModel" "rests" "[I" ∈ wsX6_proof := by decide +kernel
  intro z
  induction z with
  | zero =>
    intro row hz hb hnt
    exfalso
    have := mono9 (marksL L j) (j + 1) row (by omega)
    omega
  | succ z ih =>
    intro row hz hb hnt
    have hn6 := hC.2.1
    have hcl := cntM_le (marksL L j) (j + 1)
    have hrj : row ≤ j := by rcases Nat.lt_or_ge j row with z9 | z9; have := mono9 (marksL L j) (j + 1) row z9; omega; exact z9
    refine z_aload_n (q := 50) C 0 rfl rfl dX6_proof_49 rfl ?_
    refine z_get (q := 53) (v := .ref (e 5)) C hiX6 0 15 rfl rfl (by decide) hf29 rfl dX6_proof_50 rfl ?_
    refine z_iload (q := 55) C 2 rfl dX6_proof_53 rfl ?_
    refine z_iald (q := 56) C 6 rfl (i := row) (by omega) (by decide) dX6_proof_55 rfl ?_
    refine z_eqi (y := zb (marksL L j row)) (hf5 row hrj) ?_
    refine z_if_eq_b (q := 59) (tgt := 64) C dX6_proof_56 (by decide) rfl (fun c56 => ?_) (fun c56 => ?_)
    · skip
      refine z_iload (q := 66) C 1 rfl dX6_proof_64 rfl ?_
      refine z_aload_n (q := 67) C 0 rfl rfl dX6_proof_66 rfl ?_
      refine z_get (q := 70) (v := .ref (e 5)) C hiX6 0 15 rfl rfl (by decide) hf29 rfl dX6_proof_67 rfl ?_
      refine z_iload (q := 72) C 2 rfl dX6_proof_70 rfl ?_
      refine z_iald (q := 73) C 6 rfl (i := row) (by omega) (by decide) dX6_proof_72 rfl ?_
      refine z_eqi (y := nI 0) (by rw [hf5 row hrj, c56]; rfl) ?_
      refine z_isub (q := 74) C dX6_proof_73 rfl ?_
      refine z_eqi (y := nI ((y - cntM (marksL L j) row) - 0)) (pk_sub (a := y - cntM (marksL L j) row) (b := 0) (by omega)) ?_
      refine z_eqi (y := nI (y - cntM (marksL L j) (row + 1))) (congrArg nI (by rw [cntM_f c56]; omega)) ?_
      refine z_istore (q := 76) (lv' := [(4, .int (nI (y - cntM (marksL L j) (row + 1)))), (0, .ref hm), (5, .int (nI row))]) C dX6_proof_74 rfl (by decide) rfl ?_
      refine z_iinc (q := 79) (v := nI (row + 1)) (lv' := [(5, .int (nI (row + 1))), (4, .int (nI (y - cntM (marksL L j) (row + 1)))), (0, .ref hm)]) C 2 dX6_proof_76 rfl rfl (k_inc1 row) (by decide) rfl ?_
      refine z_goto (tgt := 49) C dX6_proof_79 (by decide) ?_
      refine z_lv [2, 1, 0] rfl ?_
      obtain ⟨t, ht⟩ : ∃ t, j + 1 - row = t + 1 := ⟨j - row, by omega⟩
      rw [ht] at hnt
      exact ih (row + 1) (by omega) (by rw [cntM_f c56]; exact hb) (by rw [← hnt, cntM_f c56, show j + 1 - (row + 1) = t by omega]; show _ = (if marksL L j row = true then _ else _); rw [if_neg (by rw [c56]; decide)])
    · skip
      refine z_iload (q := 61) C 1 rfl dX6_proof_59 rfl ?_
      refine z_if_le_n (q := 64) (tgt := 82) C (by omega) dX6_proof_61 (by decide) rfl (fun c61 => ?_) (fun c61 => ?_)
      · skip
        refine z_iload (q := 84) C 2 rfl dX6_proof_82 rfl ?_
        refine z_iret C E (by omega) (by omega) dX6_proof_84 ?_
        obtain ⟨t, ht⟩ : ∃ t, j + 1 - row = t + 1 := ⟨j - row, by omega⟩
        rw [ht] at hnt
        refine Or.inr ⟨hcd, f5, ?_, rfl⟩
        unfold vaPro
        rw [nI_tn (by omega), ← hnt]
        show _ = some (Value.int (if marksL L j row = true then _ else _))
        rw [if_pos c56, if_pos (congrArg nI (by omega))]
      · skip
        refine z_iload (q := 66) C 1 rfl dX6_proof_64 rfl ?_
        refine z_aload_n (q := 67) C 0 rfl rfl dX6_proof_66 rfl ?_
        refine z_get (q := 70) (v := .ref (e 5)) C hiX6 0 15 rfl rfl (by decide) hf29 rfl dX6_proof_67 rfl ?_
        refine z_iload (q := 72) C 2 rfl dX6_proof_70 rfl ?_
        refine z_iald (q := 73) C 6 rfl (i := row) (by omega) (by decide) dX6_proof_72 rfl ?_
        refine z_eqi (y := nI 1) (by rw [hf5 row hrj, c56]; rfl) ?_
        refine z_isub (q := 74) C dX6_proof_73 rfl ?_
        refine z_eqi (y := nI ((y - cntM (marksL L j) row) - 1)) (pk_sub (a := y - cntM (marksL L j) row) (b := 1) (by omega)) ?_
        refine z_eqi (y := nI (y - cntM (marksL L j) (row + 1))) (congrArg nI (by rw [cntM_t c56]; omega)) ?_
        refine z_istore (q := 76) (lv' := [(4, .int (nI (y - cntM (marksL L j) (row + 1)))), (0, .ref hm), (5, .int (nI row))]) C dX6_proof_74 rfl (by decide) rfl ?_
        refine z_iinc (q := 79) (v := nI (row + 1)) (lv' := [(5, .int (nI (row + 1))), (4, .int (nI (y - cntM (marksL L j) (row + 1)))), (0, .ref hm)]) C 2 dX6_proof_76 rfl rfl (k_inc1 row) (by decide) rfl ?_
        refine z_goto (tgt := 49) C dX6_proof_79 (by decide) ?_
        refine z_lv [2, 1, 0] rfl ?_
        obtain ⟨t, ht⟩ : ∃ t, j + 1 - row = t + 1 := ⟨j - row, by omega⟩
        rw [ht] at hnt
        exact ih (row + 1) (by omega) (by rw [cntM_t c56]; omega) (by rw [← hnt, cntM_t c56, show j + 1 - (row + 1) = t by omega]; show _ = (if marksL L j row = true then _ else _); rw [if_pos c56, if_neg (fun z9 => by have := (nI_eq (by omega) (by omega)).mp z9; omega)])

set_option maxHeartbeats 4000000 in
set_option maxRecDepth 100000 in
theorem c_X6_proof (l : Launch) (D : va_G) (g : ClassId × ClassId × ClassId) (hm : Nat) (e : Nat → Nat) (M : Nat → Nat → Int32) (cd : Int32) (mb ak : Bool) (cnt k nl n m md : Nat) (fu : Bool) (L : List Row) (hC : cloRep (M 2) n L) (hK : refOK L) (i x : Int32) : zM l yX6_proof wsX6_proof ({ frames := 1, cells := 0, slots := 0, locals := 24 } : Room) D g [.ref hm, .int i, .int x] [(hm, .inr (6, [.int cd, .int (zb mb), .int (zb ak), .int (nI cnt), .int (nI k), .ref (e 0), .int (nI nl), .ref (e 1), .int (nI n), .ref (e 2), .int (nI m), .int (nI md), .ref (e 3), .ref (e 4), .int (zb fu), .ref (e 5)])), (e 0, .inl (g.1, 240, .inl (M 0))), (e 1, .inl (g.1, 40, .inl (M 1))), (e 2, .inl (g.1, 4200, .inl (M 2))), (e 3, .inl (g.1, 4207, .inl (M 3))), (e 4, .inl (g.1, 2048, .inl (M 4))), (e 5, .inl (g.1, 600, .inl (M 5)))] 0 0 (fun v w1 => (cdRow L i = 1 ∧ v = some (.int (nI 0)) ∧ w1 = [(hm, .inr (6, [.int (nI 1), .int (zb mb), .int (zb ak), .int (nI cnt), .int (nI k), .ref (e 0), .int (nI nl), .ref (e 1), .int (nI n), .ref (e 2), .int (nI m), .int (nI md), .ref (e 3), .ref (e 4), .int (zb fu), .ref (e 5)])), (e 0, .inl (g.1, 240, .inl (M 0))), (e 1, .inl (g.1, 40, .inl (M 1))), (e 2, .inl (g.1, 4200, .inl (M 2))), (e 3, .inl (g.1, 4207, .inl (M 3))), (e 4, .inl (g.1, 2048, .inl (M 4))), (e 5, .inl (g.1, 600, .inl (M 5)))]) ∨ (cdRow L i = 0 ∧ ∃ f5 : Nat → Int32, v = some (.int (vaPro L i x)) ∧ w1 = [(hm, .inr (6, [.int (nI 0), .int (zb mb), .int (zb ak), .int (nI cnt), .int (nI k), .ref (e 0), .int (nI nl), .ref (e 1), .int (nI n), .ref (e 2), .int (nI m), .int (nI md), .ref (e 3), .ref (e 4), .int (zb fu), .ref (e 5)])), (e 0, .inl (g.1, 240, .inl (M 0))), (e 1, .inl (g.1, 40, .inl (M 1))), (e 2, .inl (g.1, 4200, .inl (M 2))), (e 3, .inl (g.1, 4207, .inl (M 3))), (e 4, .inl (g.1, 2048, .inl (M 4))), (e 5, .inl (g.1, 600, .inl f5))])) := by
  refine z_met (cc := cX6_proof) (maxL := 6) (ret := (some .int)) (lv := [(0, .ref hm), (1, .int i), (2, .int x)]) (by decide) rfl (Nat.le_of_ble_eq_true rfl) rfl ?_
  intro X hXD hXg hXl hnm C E
  subst hXD hXg hXl
  have C : zC X cX6_proof 6 RX6 wsX6_proof ({ frames := 1, cells := 0, slots := 0, locals := 24 } : Room) := C
  have hiX6 : ∀ w ∈ u_ws RX6 TX6 16, w ∈ wsX6_proof := by decide +kernel
  have hf109 : Cond.fieldLink RX6 109 "RdfsRulesModel" "rows" "I" ∈ wsX6_proof := by decide +kernel
  have hn6 := hC.2.1
  refine z_aload_n (q := 1) C 0 rfl rfl dX6_proof_0 rfl ?_
  refine z_iload_n (q := 2) C 1 rfl rfl dX6_proof_1 rfl ?_
  refine z_if_lt_i (q := 5) (tgt := 13) C rfl dX6_proof_2 (by decide) rfl (fun c2 => ?_) (fun c2 => ?_)
  · skip
    refine z_iconst (q := 14) C k_iconst_1 dX6_proof_13 rfl ?_
    refine z_goto (tgt := 18) C dX6_proof_14 (by decide) ?_
    refine z_callV (q := 21) (n := 1) (As := [.int (nI 1)]) (rest := []) (wr := [(e 0, .inl (X.cI, 240, .inl (M 0))), (e 1, .inl (X.cI, 40, .inl (M 1))), (e 2, .inl (X.cI, 4200, .inl (M 2))), (e 3, .inl (X.cI, 4207, .inl (M 3))), (e 4, .inl (X.cI, 2048, .inl (M 4))), (e 5, .inl (X.cI, 600, .inl (M 5)))]) C (c_X6_refuses X.l X.D X.2.1 hm e M cd mb ak cnt k nl n m md fu 1 (by omega)) gX6_proof_X6_refuses rfl rfl rfl (by decide +kernel) (by decide) ⟨by first | decide | omega, by first | decide | omega⟩ 0 6 rfl rfl [0] [1, 2, 3, 4, 5, 6] rfl rfl (by decide) (by decide) (by decide) rfl rfl (Nat.le_of_ble_eq_true rfl) dX6_proof_18 rfl (fun v w1 hp => ?_)
    obtain ⟨rfl, rfl⟩ := hp
    show zW X 6 [(e 0, .inl (X.cI, 240, .inl (M 0))), (e 1, .inl (X.cI, 40, .inl (M 1))), (e 2, .inl (X.cI, 4200, .inl (M 2))), (e 3, .inl (X.cI, 4207, .inl (M 3))), (e 4, .inl (X.cI, 2048, .inl (M 4))), (e 5, .inl (X.cI, 600, .inl (M 5))), (hm, .inr (6, [.int (nI 1), .int (zb mb), .int (zb ak), .int (nI cnt), .int (nI k), .ref (e 0), .int (nI nl), .ref (e 1), .int (nI n), .ref (e 2), .int (nI m), .int (nI md), .ref (e 3), .ref (e 4), .int (zb fu), .ref (e 5)]))] _ _ 21 _ [.int (zb (decide (0 < 1)))]
    refine z_ws (ws' := [(hm, .inr (6, [.int (nI 1), .int (zb mb), .int (zb ak), .int (nI cnt), .int (nI k), .ref (e 0), .int (nI nl), .ref (e 1), .int (nI n), .ref (e 2), .int (nI m), .int (nI md), .ref (e 3), .ref (e 4), .int (zb fu), .ref (e 5)])), (e 0, .inl (X.cI, 240, .inl (M 0))), (e 1, .inl (X.cI, 40, .inl (M 1))), (e 2, .inl (X.cI, 4200, .inl (M 2))), (e 3, .inl (X.cI, 4207, .inl (M 3))), (e 4, .inl (X.cI, 2048, .inl (M 4))), (e 5, .inl (X.cI, 600, .inl (M 5)))]) [6, 0, 1, 2, 3, 4, 5] (by decide) rfl ?_
    refine z_if_eq_b (q := 24) (tgt := 26) C dX6_proof_21 (by decide) rfl (fun c21 => ?_) (fun c21 => ?_)
    · skip
      exact absurd c21 (by decide)
    · skip
      refine z_iconst (q := 25) C k_iconst_0 dX6_proof_24 rfl ?_
      refine z_iret C E (by omega) (by omega) dX6_proof_25 ?_
      refine Or.inl ⟨if_neg (fun z9 => ?_), rfl, rfl⟩
      have := of_decide_eq_true z9
      rw [hC.1] at this
      omega
  · skip
    refine z_iload_n (q := 6) C 1 rfl rfl dX6_proof_5 rfl ?_
    refine z_aload_n (q := 7) C 0 rfl rfl dX6_proof_6 rfl ?_
    refine z_get (q := 10) (v := .int (nI n)) C hiX6 0 8 rfl rfl (by decide) hf109 rfl dX6_proof_7 rfl ?_
    refine z_icmp_lt_i (q := 13) (tgt := 17) C rfl (nI_toInt (n := n) (by omega)) dX6_proof_10 (by decide) rfl (fun c10 => ?_) (fun c10 => ?_)
    · skip
      obtain ⟨j, hj, rfl⟩ := row_of c2 c10
      refine z_iconst (q := 18) C k_iconst_0 dX6_proof_17 rfl ?_
      refine z_callV (q := 21) (n := 1) (As := [.int (nI 0)]) (rest := []) (wr := [(e 0, .inl (X.cI, 240, .inl (M 0))), (e 1, .inl (X.cI, 40, .inl (M 1))), (e 2, .inl (X.cI, 4200, .inl (M 2))), (e 3, .inl (X.cI, 4207, .inl (M 3))), (e 4, .inl (X.cI, 2048, .inl (M 4))), (e 5, .inl (X.cI, 600, .inl (M 5)))]) C (c_X6_refuses X.l X.D X.2.1 hm e M cd mb ak cnt k nl n m md fu 0 (by omega)) gX6_proof_X6_refuses rfl rfl rfl (by decide +kernel) (by decide) ⟨by first | decide | omega, by first | decide | omega⟩ 0 6 rfl rfl [0] [1, 2, 3, 4, 5, 6] rfl rfl (by decide) (by decide) (by decide) rfl rfl (Nat.le_of_ble_eq_true rfl) dX6_proof_18 rfl (fun v w1 hp => ?_)
      obtain ⟨rfl, rfl⟩ := hp
      show zW X 6 [(e 0, .inl (X.cI, 240, .inl (M 0))), (e 1, .inl (X.cI, 40, .inl (M 1))), (e 2, .inl (X.cI, 4200, .inl (M 2))), (e 3, .inl (X.cI, 4207, .inl (M 3))), (e 4, .inl (X.cI, 2048, .inl (M 4))), (e 5, .inl (X.cI, 600, .inl (M 5))), (hm, .inr (6, [.int (nI 0), .int (zb mb), .int (zb ak), .int (nI cnt), .int (nI k), .ref (e 0), .int (nI nl), .ref (e 1), .int (nI n), .ref (e 2), .int (nI m), .int (nI md), .ref (e 3), .ref (e 4), .int (zb fu), .ref (e 5)]))] _ _ 21 _ [.int (zb (decide (0 < 0)))]
      refine z_ws (ws' := [(hm, .inr (6, [.int (nI 0), .int (zb mb), .int (zb ak), .int (nI cnt), .int (nI k), .ref (e 0), .int (nI nl), .ref (e 1), .int (nI n), .ref (e 2), .int (nI m), .int (nI md), .ref (e 3), .ref (e 4), .int (zb fu), .ref (e 5)])), (e 0, .inl (X.cI, 240, .inl (M 0))), (e 1, .inl (X.cI, 40, .inl (M 1))), (e 2, .inl (X.cI, 4200, .inl (M 2))), (e 3, .inl (X.cI, 4207, .inl (M 3))), (e 4, .inl (X.cI, 2048, .inl (M 4))), (e 5, .inl (X.cI, 600, .inl (M 5)))]) [6, 0, 1, 2, 3, 4, 5] (by decide) rfl ?_
      refine z_if_eq_b (q := 24) (tgt := 26) C dX6_proof_21 (by decide) rfl (fun c21 => ?_) (fun c21 => ?_)
      · skip
        refine z_aload_n (q := 27) C 0 rfl rfl dX6_proof_26 rfl ?_
        refine z_iload_n (q := 28) C 1 rfl rfl dX6_proof_27 rfl ?_
        refine z_callV (q := 31) (n := 1) (As := [.int (nI j)]) (rest := []) (wr := []) C (c_X6_marks X.l X.D X.2.1 hm e M (nI 0) mb ak cnt k nl n m md fu L hC j hj hK) gX6_proof_X6_marks rfl rfl rfl (by decide +kernel) (by decide) ⟨by first | decide | omega, by first | decide | omega⟩ 0 6 rfl rfl [0, 1, 2, 3, 4, 5, 6] [] rfl rfl (by decide) (by decide) (by decide) rfl rfl (Nat.le_of_ble_eq_true rfl) dX6_proof_28 rfl (fun v w1 hp => ?_)
        obtain ⟨f5, hf5, rfl, rfl⟩ := hp
        show zW X 6 [(hm, .inr (6, [.int (nI 0), .int (zb mb), .int (zb ak), .int (nI cnt), .int (nI k), .ref (e 0), .int (nI nl), .ref (e 1), .int (nI n), .ref (e 2), .int (nI m), .int (nI md), .ref (e 3), .ref (e 4), .int (zb fu), .ref (e 5)])), (e 0, .inl (X.cI, 240, .inl (M 0))), (e 1, .inl (X.cI, 40, .inl (M 1))), (e 2, .inl (X.cI, 4200, .inl (M 2))), (e 3, .inl (X.cI, 4207, .inl (M 3))), (e 4, .inl (X.cI, 2048, .inl (M 4))), (e 5, .inl (X.cI, 600, .inl f5))] _ _ 31 _ [.int (nI (cntM (marksL L j) (j + 1)))]
        have hcl := cntM_le (marksL L j) (j + 1)
        refine z_istore_n (q := 32) (lv' := [(3, .int (nI (cntM (marksL L j) (j + 1)))), (0, .ref hm), (1, .int (nI j)), (2, .int x)]) C rfl dX6_proof_31 rfl (by decide) rfl ?_
        refine z_iload_n (q := 33) C 3 rfl rfl dX6_proof_32 rfl ?_
        refine z_if_lt_i (q := 36) (tgt := 41) C rfl dX6_proof_33 (by decide) rfl (fun c33 => ?_) (fun c33 => ?_)
        · skip
          refine z_iconst (q := 42) C k_iconst_m1 dX6_proof_41 rfl ?_
          refine z_iret C E (by omega) (by omega) dX6_proof_42 ?_
          refine Or.inr ⟨if_pos (by rw [hC.1]; exact decide_eq_true ⟨c2, c10⟩), f5, ?_, rfl⟩
          unfold vaPro
          rw [nI_tn (by omega), nthUp_none (j + 1) 0 0 (by have := cntM_le (marksL L j) (0 + (j + 1)); omega) rfl (by rw [Nat.zero_add]; omega)]
        · skip
          refine z_iload_n (q := 37) C 3 rfl rfl dX6_proof_36 rfl ?_
          refine z_iload_n (q := 38) C 0 rfl rfl dX6_proof_37 rfl ?_
          refine z_icmp_lt_i (q := 41) (tgt := 43) C rfl (nI_toInt (n := cntM (marksL L j) (j + 1)) (by omega)) dX6_proof_38 (by decide) rfl (fun c38 => ?_) (fun c38 => ?_)
          · skip
            obtain ⟨y, hy, rfl⟩ := row_of c33 c38
            refine z_iload_n (q := 44) C 3 rfl rfl dX6_proof_43 rfl ?_
            refine z_eqi (y := nI (y - cntM (marksL L j) 0)) (congrArg nI (by show y = y - 0; omega)) ?_
            refine z_istore (q := 46) (lv' := [(4, .int (nI (y - cntM (marksL L j) 0))), (3, .int (nI (cntM (marksL L j) (j + 1)))), (0, .ref hm), (1, .int (nI j)), (2, .int (nI y))]) C dX6_proof_44 rfl (by decide) rfl ?_
            refine z_iconst (q := 47) C k_iconst_0 dX6_proof_46 rfl ?_
            refine z_istore (q := 49) (lv' := [(5, .int (nI 0)), (4, .int (nI (y - cntM (marksL L j) 0))), (3, .int (nI (cntM (marksL L j) (j + 1)))), (0, .ref hm), (1, .int (nI j)), (2, .int (nI y))]) C dX6_proof_47 rfl (by decide) rfl ?_
            refine z_lv [3, 1, 0] rfl ?_
            exact l_X6_proof hm e M (nI 0) mb ak cnt k nl n m md fu L hC hK j hj (if_pos (by rw [hC.1]; exact decide_eq_true ⟨c2, c10⟩)) f5 hf5 y (by omega) C E (j + 2) 0 (by omega) (Nat.zero_le _) (by show nthUp _ _ (j + 1) 0 0 = _; rfl)
          · skip
            refine z_iconst (q := 42) C k_iconst_m1 dX6_proof_41 rfl ?_
            refine z_iret C E (by omega) (by omega) dX6_proof_42 ?_
            refine Or.inr ⟨if_pos (by rw [hC.1]; exact decide_eq_true ⟨c2, c10⟩), f5, ?_, rfl⟩
            unfold vaPro
            rw [nI_tn (by omega), nthUp_none (j + 1) 0 0 (by have := cntM_le (marksL L j) (0 + (j + 1)); omega) rfl (by rw [Nat.zero_add]; omega)]
      · skip
        exact absurd c21 (by decide)
    · skip
      refine z_iconst (q := 14) C k_iconst_1 dX6_proof_13 rfl ?_
      refine z_goto (tgt := 18) C dX6_proof_14 (by decide) ?_
      refine z_callV (q := 21) (n := 1) (As := [.int (nI 1)]) (rest := []) (wr := [(e 0, .inl (X.cI, 240, .inl (M 0))), (e 1, .inl (X.cI, 40, .inl (M 1))), (e 2, .inl (X.cI, 4200, .inl (M 2))), (e 3, .inl (X.cI, 4207, .inl (M 3))), (e 4, .inl (X.cI, 2048, .inl (M 4))), (e 5, .inl (X.cI, 600, .inl (M 5)))]) C (c_X6_refuses X.l X.D X.2.1 hm e M cd mb ak cnt k nl n m md fu 1 (by omega)) gX6_proof_X6_refuses rfl rfl rfl (by decide +kernel) (by decide) ⟨by first | decide | omega, by first | decide | omega⟩ 0 6 rfl rfl [0] [1, 2, 3, 4, 5, 6] rfl rfl (by decide) (by decide) (by decide) rfl rfl (Nat.le_of_ble_eq_true rfl) dX6_proof_18 rfl (fun v w1 hp => ?_)
      obtain ⟨rfl, rfl⟩ := hp
      show zW X 6 [(e 0, .inl (X.cI, 240, .inl (M 0))), (e 1, .inl (X.cI, 40, .inl (M 1))), (e 2, .inl (X.cI, 4200, .inl (M 2))), (e 3, .inl (X.cI, 4207, .inl (M 3))), (e 4, .inl (X.cI, 2048, .inl (M 4))), (e 5, .inl (X.cI, 600, .inl (M 5))), (hm, .inr (6, [.int (nI 1), .int (zb mb), .int (zb ak), .int (nI cnt), .int (nI k), .ref (e 0), .int (nI nl), .ref (e 1), .int (nI n), .ref (e 2), .int (nI m), .int (nI md), .ref (e 3), .ref (e 4), .int (zb fu), .ref (e 5)]))] _ _ 21 _ [.int (zb (decide (0 < 1)))]
      refine z_ws (ws' := [(hm, .inr (6, [.int (nI 1), .int (zb mb), .int (zb ak), .int (nI cnt), .int (nI k), .ref (e 0), .int (nI nl), .ref (e 1), .int (nI n), .ref (e 2), .int (nI m), .int (nI md), .ref (e 3), .ref (e 4), .int (zb fu), .ref (e 5)])), (e 0, .inl (X.cI, 240, .inl (M 0))), (e 1, .inl (X.cI, 40, .inl (M 1))), (e 2, .inl (X.cI, 4200, .inl (M 2))), (e 3, .inl (X.cI, 4207, .inl (M 3))), (e 4, .inl (X.cI, 2048, .inl (M 4))), (e 5, .inl (X.cI, 600, .inl (M 5)))]) [6, 0, 1, 2, 3, 4, 5] (by decide) rfl ?_
      refine z_if_eq_b (q := 24) (tgt := 26) C dX6_proof_21 (by decide) rfl (fun c21 => ?_) (fun c21 => ?_)
      · skip
        exact absurd c21 (by decide)
      · skip
        refine z_iconst (q := 25) C k_iconst_0 dX6_proof_24 rfl ?_
        refine z_iret C E (by omega) (by omega) dX6_proof_25 ?_
        refine Or.inl ⟨if_neg (fun z9 => ?_), rfl, rfl⟩
        have := of_decide_eq_true z9
        rw [hC.1] at this
        omega

set_option maxHeartbeats 4000000 in
set_option maxRecDepth 100000 in
theorem l_X6_rule {X : zX} (hm : Nat) (e : Nat → Nat) (M : Nat → Nat → Int32) (mb ak : Bool) (cnt k nl n m md : Nat) (fu : Bool) (L : List Row) (hC : cloRep (M 2) n L) (x : Int32) (hcd : cdRul x = 0) (C : zC X cX6_rule 4 RX6 wsX6_rule ({ frames := 1, cells := 0, slots := 0, locals := 21 } : Room)) (E : zE X (some .int) 0 0 (fun v w1 => (cdRul x = 1 ∧ v = some (.int (nI 0)) ∧ w1 = [(hm, .inr (6, [.int (nI 1), .int (zb mb), .int (zb ak), .int (nI cnt), .int (nI k), .ref (e 0), .int (nI nl), .ref (e 1), .int (nI n), .ref (e 2), .int (nI m), .int (nI md), .ref (e 3), .ref (e 4), .int (zb fu), .ref (e 5)])), (e 0, .inl (X.cI, 240, .inl (M 0))), (e 1, .inl (X.cI, 40, .inl (M 1))), (e 2, .inl (X.cI, 4200, .inl (M 2))), (e 3, .inl (X.cI, 4207, .inl (M 3))), (e 4, .inl (X.cI, 2048, .inl (M 4))), (e 5, .inl (X.cI, 600, .inl (M 5)))]) ∨ (cdRul x = 0 ∧ v = some (.int (nI (cntN (ruleP x) L L.length))) ∧ w1 = [(hm, .inr (6, [.int (nI 0), .int (zb mb), .int (zb ak), .int (nI cnt), .int (nI k), .ref (e 0), .int (nI nl), .ref (e 1), .int (nI n), .ref (e 2), .int (nI m), .int (nI md), .ref (e 3), .ref (e 4), .int (zb fu), .ref (e 5)])), (e 0, .inl (X.cI, 240, .inl (M 0))), (e 1, .inl (X.cI, 40, .inl (M 1))), (e 2, .inl (X.cI, 4200, .inl (M 2))), (e 3, .inl (X.cI, 4207, .inl (M 3))), (e 4, .inl (X.cI, 2048, .inl (M 4))), (e 5, .inl (X.cI, 600, .inl (M 5)))]))) : ∀ (z : Nat) (i : Nat), i ≤ n → n < i + z → zW X 4 [(hm, .inr (6, [.int (nI 0), .int (zb mb), .int (zb ak), .int (nI cnt), .int (nI k), .ref (e 0), .int (nI nl), .ref (e 1), .int (nI n), .ref (e 2), .int (nI m), .int (nI md), .ref (e 3), .ref (e 4), .int (zb fu), .ref (e 5)])), (e 0, .inl (X.cI, 240, .inl (M 0))), (e 1, .inl (X.cI, 40, .inl (M 1))), (e 2, .inl (X.cI, 4200, .inl (M 2))), (e 3, .inl (X.cI, 4207, .inl (M 3))), (e 4, .inl (X.cI, 2048, .inl (M 4))), (e 5, .inl (X.cI, 600, .inl (M 5)))] 0 0 28 [(0, .ref hm), (1, .int x), (2, .int (nI (cntN (ruleP x) L i))), (3, .int (nI i))] [] := by
  have hiX6 : ∀ w ∈ u_ws RX6 TX6 16, w ∈ wsX6_rule := by decide +kernel
  have hf20 : Cond.fieldLink RX6 20 "RdfsRulesModel" "closure" "[I" ∈ wsX6_rule := by decide +kernel
  have hf109 : Cond.fieldLink RX6 109 "RdfsRulesModel" "rows" "I" ∈ wsX6_rule := by decide +kernel
  intro z
  induction z with
  | zero =>
    intro i hi hz
    exfalso
    omega
  | succ z ih =>
    intro i hi hz
    have hn6 := hC.2.1
    have hcl := cntN_le (ruleP x) L i
    refine z_iload_n (q := 29) C 3 rfl rfl dX6_rule_28 rfl ?_
    refine z_aload_n (q := 30) C 0 rfl rfl dX6_rule_29 rfl ?_
    refine z_get (q := 33) (v := .int (nI n)) C hiX6 0 8 rfl rfl (by decide) hf109 rfl dX6_rule_30 rfl ?_
    refine z_icmp_ge_n (q := 36) (tgt := 65) C (by omega) (by omega) dX6_rule_33 (by decide) rfl (fun c33 => ?_) (fun c33 => ?_)
    · skip
      refine z_iload_n (q := 66) C 2 rfl rfl dX6_rule_65 rfl ?_
      refine z_iret C E (by omega) (by omega) dX6_rule_66 ?_
      obtain rfl : i = n := by omega
      exact Or.inr ⟨hcd, by rw [hC.1], rfl⟩
    · skip
      have hlt : i < n := c33
      refine z_iload_n (q := 37) C 2 rfl rfl dX6_rule_36 rfl ?_
      refine z_aload_n (q := 38) C 0 rfl rfl dX6_rule_37 rfl ?_
      refine z_get (q := 41) (v := .ref (e 2)) C hiX6 0 9 rfl rfl (by decide) hf20 rfl dX6_rule_38 rfl ?_
      refine z_bipush (q := 43) C k_bipush_7 dX6_rule_41 rfl ?_
      refine z_iload_n (q := 44) C 3 rfl rfl dX6_rule_43 rfl ?_
      refine z_imul (q := 45) C dX6_rule_44 rfl ?_
      refine z_eqi (y := nI (7 * i)) (pk_mul 7 i) ?_
      refine z_iconst (q := 46) C k_iconst_3 dX6_rule_45 rfl ?_
      refine z_iadd (q := 47) C dX6_rule_46 rfl ?_
      refine z_eqi (y := nI ((7 * i) + 3)) (nI_add (7 * i) 3) ?_
      refine z_iald (q := 48) C 3 rfl (i := (7 * i) + 3) (by omega) (by decide) dX6_rule_47 rfl ?_
      refine z_iload_n (q := 49) C 1 rfl rfl dX6_rule_48 rfl ?_
      refine z_icmp_ne (q := 52) (tgt := 56) C dX6_rule_49 (by decide) rfl (fun c49 => ?_) (fun c49 => ?_)
      · skip
        refine z_iconst (q := 57) C k_iconst_0 dX6_rule_56 rfl ?_
        refine z_iadd (q := 58) C dX6_rule_57 rfl ?_
        refine z_eqi (y := nI ((cntN (ruleP x) L i) + 0)) (nI_add (cntN (ruleP x) L i) 0) ?_
        refine z_eqi (y := nI (cntN (ruleP x) L (i + 1))) (congrArg nI (by rw [cntN_f (decide_eq_false (by rw [← hC.at hlt (by omega)]; exact c49))]; rfl)) ?_
        refine z_istore_n (q := 59) (lv' := [(2, .int (nI (cntN (ruleP x) L (i + 1)))), (0, .ref hm), (1, .int x), (3, .int (nI i))]) C rfl dX6_rule_58 rfl (by decide) rfl ?_
        refine z_iinc (q := 62) (v := nI (i + 1)) (lv' := [(3, .int (nI (i + 1))), (2, .int (nI (cntN (ruleP x) L (i + 1)))), (0, .ref hm), (1, .int x)]) C 3 dX6_rule_59 rfl rfl (k_inc1 i) (by decide) rfl ?_
        refine z_goto (tgt := 28) C dX6_rule_62 (by decide) ?_
        refine z_lv [2, 3, 1, 0] rfl ?_
        exact ih (i + 1) (by omega) (by omega)
      · skip
        refine z_iconst (q := 53) C k_iconst_1 dX6_rule_52 rfl ?_
        refine z_goto (tgt := 57) C dX6_rule_53 (by decide) ?_
        refine z_iadd (q := 58) C dX6_rule_57 rfl ?_
        refine z_eqi (y := nI ((cntN (ruleP x) L i) + 1)) (nI_add (cntN (ruleP x) L i) 1) ?_
        refine z_eqi (y := nI (cntN (ruleP x) L (i + 1))) (congrArg nI (by rw [cntN_t (decide_eq_true (by rw [← hC.at hlt (by omega)]; exact c49))])) ?_
        refine z_istore_n (q := 59) (lv' := [(2, .int (nI (cntN (ruleP x) L (i + 1)))), (0, .ref hm), (1, .int x), (3, .int (nI i))]) C rfl dX6_rule_58 rfl (by decide) rfl ?_
        refine z_iinc (q := 62) (v := nI (i + 1)) (lv' := [(3, .int (nI (i + 1))), (2, .int (nI (cntN (ruleP x) L (i + 1)))), (0, .ref hm), (1, .int x)]) C 3 dX6_rule_59 rfl rfl (k_inc1 i) (by decide) rfl ?_
        refine z_goto (tgt := 28) C dX6_rule_62 (by decide) ?_
        refine z_lv [2, 3, 1, 0] rfl ?_
        exact ih (i + 1) (by omega) (by omega)

set_option maxHeartbeats 4000000 in
set_option maxRecDepth 100000 in
theorem c_X6_rule (l : Launch) (D : va_G) (g : ClassId × ClassId × ClassId) (hm : Nat) (e : Nat → Nat) (M : Nat → Nat → Int32) (cd : Int32) (mb ak : Bool) (cnt k nl n m md : Nat) (fu : Bool) (L : List Row) (hC : cloRep (M 2) n L) (x : Int32) : zM l yX6_rule wsX6_rule ({ frames := 1, cells := 0, slots := 0, locals := 21 } : Room) D g [.ref hm, .int x] [(hm, .inr (6, [.int cd, .int (zb mb), .int (zb ak), .int (nI cnt), .int (nI k), .ref (e 0), .int (nI nl), .ref (e 1), .int (nI n), .ref (e 2), .int (nI m), .int (nI md), .ref (e 3), .ref (e 4), .int (zb fu), .ref (e 5)])), (e 0, .inl (g.1, 240, .inl (M 0))), (e 1, .inl (g.1, 40, .inl (M 1))), (e 2, .inl (g.1, 4200, .inl (M 2))), (e 3, .inl (g.1, 4207, .inl (M 3))), (e 4, .inl (g.1, 2048, .inl (M 4))), (e 5, .inl (g.1, 600, .inl (M 5)))] 0 0 (fun v w1 => (cdRul x = 1 ∧ v = some (.int (nI 0)) ∧ w1 = [(hm, .inr (6, [.int (nI 1), .int (zb mb), .int (zb ak), .int (nI cnt), .int (nI k), .ref (e 0), .int (nI nl), .ref (e 1), .int (nI n), .ref (e 2), .int (nI m), .int (nI md), .ref (e 3), .ref (e 4), .int (zb fu), .ref (e 5)])), (e 0, .inl (g.1, 240, .inl (M 0))), (e 1, .inl (g.1, 40, .inl (M 1))), (e 2, .inl (g.1, 4200, .inl (M 2))), (e 3, .inl (g.1, 4207, .inl (M 3))), (e 4, .inl (g.1, 2048, .inl (M 4))), (e 5, .inl (g.1, 600, .inl (M 5)))]) ∨ (cdRul x = 0 ∧ v = some (.int (nI (cntN (ruleP x) L L.length))) ∧ w1 = [(hm, .inr (6, [.int (nI 0), .int (zb mb), .int (zb ak), .int (nI cnt), .int (nI k), .ref (e 0), .int (nI nl), .ref (e 1), .int (nI n), .ref (e 2), .int (nI m), .int (nI md), .ref (e 3), .ref (e 4), .int (zb fu), .ref (e 5)])), (e 0, .inl (g.1, 240, .inl (M 0))), (e 1, .inl (g.1, 40, .inl (M 1))), (e 2, .inl (g.1, 4200, .inl (M 2))), (e 3, .inl (g.1, 4207, .inl (M 3))), (e 4, .inl (g.1, 2048, .inl (M 4))), (e 5, .inl (g.1, 600, .inl (M 5)))])) := by
  refine z_met (cc := cX6_rule) (maxL := 4) (ret := (some .int)) (lv := [(0, .ref hm), (1, .int x)]) (by decide) rfl (Nat.le_of_ble_eq_true rfl) rfl ?_
  intro X hXD hXg hXl hnm C E
  subst hXD hXg hXl
  have C : zC X cX6_rule 4 RX6 wsX6_rule ({ frames := 1, cells := 0, slots := 0, locals := 21 } : Room) := C
  have hn6 := hC.2.1
  refine z_aload_n (q := 1) C 0 rfl rfl dX6_rule_0 rfl ?_
  refine z_iload_n (q := 2) C 1 rfl rfl dX6_rule_1 rfl ?_
  refine z_if_lt_i (q := 5) (tgt := 11) C rfl dX6_rule_2 (by decide) rfl (fun c2 => ?_) (fun c2 => ?_)
  · skip
    refine z_iconst (q := 12) C k_iconst_1 dX6_rule_11 rfl ?_
    refine z_goto (tgt := 16) C dX6_rule_12 (by decide) ?_
    refine z_callV (q := 19) (n := 1) (As := [.int (nI 1)]) (rest := []) (wr := [(e 0, .inl (X.cI, 240, .inl (M 0))), (e 1, .inl (X.cI, 40, .inl (M 1))), (e 2, .inl (X.cI, 4200, .inl (M 2))), (e 3, .inl (X.cI, 4207, .inl (M 3))), (e 4, .inl (X.cI, 2048, .inl (M 4))), (e 5, .inl (X.cI, 600, .inl (M 5)))]) C (c_X6_refuses X.l X.D X.2.1 hm e M cd mb ak cnt k nl n m md fu 1 (by omega)) gX6_rule_X6_refuses rfl rfl rfl (by decide +kernel) (by decide) ⟨by first | decide | omega, by first | decide | omega⟩ 0 6 rfl rfl [0] [1, 2, 3, 4, 5, 6] rfl rfl (by decide) (by decide) (by decide) rfl rfl (Nat.le_of_ble_eq_true rfl) dX6_rule_16 rfl (fun v w1 hp => ?_)
    obtain ⟨rfl, rfl⟩ := hp
    show zW X 4 [(e 0, .inl (X.cI, 240, .inl (M 0))), (e 1, .inl (X.cI, 40, .inl (M 1))), (e 2, .inl (X.cI, 4200, .inl (M 2))), (e 3, .inl (X.cI, 4207, .inl (M 3))), (e 4, .inl (X.cI, 2048, .inl (M 4))), (e 5, .inl (X.cI, 600, .inl (M 5))), (hm, .inr (6, [.int (nI 1), .int (zb mb), .int (zb ak), .int (nI cnt), .int (nI k), .ref (e 0), .int (nI nl), .ref (e 1), .int (nI n), .ref (e 2), .int (nI m), .int (nI md), .ref (e 3), .ref (e 4), .int (zb fu), .ref (e 5)]))] _ _ 19 _ [.int (zb (decide (0 < 1)))]
    refine z_ws (ws' := [(hm, .inr (6, [.int (nI 1), .int (zb mb), .int (zb ak), .int (nI cnt), .int (nI k), .ref (e 0), .int (nI nl), .ref (e 1), .int (nI n), .ref (e 2), .int (nI m), .int (nI md), .ref (e 3), .ref (e 4), .int (zb fu), .ref (e 5)])), (e 0, .inl (X.cI, 240, .inl (M 0))), (e 1, .inl (X.cI, 40, .inl (M 1))), (e 2, .inl (X.cI, 4200, .inl (M 2))), (e 3, .inl (X.cI, 4207, .inl (M 3))), (e 4, .inl (X.cI, 2048, .inl (M 4))), (e 5, .inl (X.cI, 600, .inl (M 5)))]) [6, 0, 1, 2, 3, 4, 5] (by decide) rfl ?_
    refine z_if_eq_b (q := 22) (tgt := 24) C dX6_rule_19 (by decide) rfl (fun c19 => ?_) (fun c19 => ?_)
    · skip
      exact absurd c19 (by decide)
    · skip
      refine z_iconst (q := 23) C k_iconst_0 dX6_rule_22 rfl ?_
      refine z_iret C E (by omega) (by omega) dX6_rule_23 ?_
      exact Or.inl ⟨if_neg (by omega), rfl, rfl⟩
  · skip
    refine z_iload_n (q := 6) C 1 rfl rfl dX6_rule_5 rfl ?_
    refine z_bipush (q := 8) C k_bipush_14 dX6_rule_6 rfl ?_
    refine z_icmp_lt_i (q := 11) (tgt := 15) C rfl ti_14 dX6_rule_8 (by decide) rfl (fun c8 => ?_) (fun c8 => ?_)
    · skip
      refine z_iconst (q := 16) C k_iconst_0 dX6_rule_15 rfl ?_
      refine z_callV (q := 19) (n := 1) (As := [.int (nI 0)]) (rest := []) (wr := [(e 0, .inl (X.cI, 240, .inl (M 0))), (e 1, .inl (X.cI, 40, .inl (M 1))), (e 2, .inl (X.cI, 4200, .inl (M 2))), (e 3, .inl (X.cI, 4207, .inl (M 3))), (e 4, .inl (X.cI, 2048, .inl (M 4))), (e 5, .inl (X.cI, 600, .inl (M 5)))]) C (c_X6_refuses X.l X.D X.2.1 hm e M cd mb ak cnt k nl n m md fu 0 (by omega)) gX6_rule_X6_refuses rfl rfl rfl (by decide +kernel) (by decide) ⟨by first | decide | omega, by first | decide | omega⟩ 0 6 rfl rfl [0] [1, 2, 3, 4, 5, 6] rfl rfl (by decide) (by decide) (by decide) rfl rfl (Nat.le_of_ble_eq_true rfl) dX6_rule_16 rfl (fun v w1 hp => ?_)
      obtain ⟨rfl, rfl⟩ := hp
      show zW X 4 [(e 0, .inl (X.cI, 240, .inl (M 0))), (e 1, .inl (X.cI, 40, .inl (M 1))), (e 2, .inl (X.cI, 4200, .inl (M 2))), (e 3, .inl (X.cI, 4207, .inl (M 3))), (e 4, .inl (X.cI, 2048, .inl (M 4))), (e 5, .inl (X.cI, 600, .inl (M 5))), (hm, .inr (6, [.int (nI 0), .int (zb mb), .int (zb ak), .int (nI cnt), .int (nI k), .ref (e 0), .int (nI nl), .ref (e 1), .int (nI n), .ref (e 2), .int (nI m), .int (nI md), .ref (e 3), .ref (e 4), .int (zb fu), .ref (e 5)]))] _ _ 19 _ [.int (zb (decide (0 < 0)))]
      refine z_ws (ws' := [(hm, .inr (6, [.int (nI 0), .int (zb mb), .int (zb ak), .int (nI cnt), .int (nI k), .ref (e 0), .int (nI nl), .ref (e 1), .int (nI n), .ref (e 2), .int (nI m), .int (nI md), .ref (e 3), .ref (e 4), .int (zb fu), .ref (e 5)])), (e 0, .inl (X.cI, 240, .inl (M 0))), (e 1, .inl (X.cI, 40, .inl (M 1))), (e 2, .inl (X.cI, 4200, .inl (M 2))), (e 3, .inl (X.cI, 4207, .inl (M 3))), (e 4, .inl (X.cI, 2048, .inl (M 4))), (e 5, .inl (X.cI, 600, .inl (M 5)))]) [6, 0, 1, 2, 3, 4, 5] (by decide) rfl ?_
      refine z_if_eq_b (q := 22) (tgt := 24) C dX6_rule_19 (by decide) rfl (fun c19 => ?_) (fun c19 => ?_)
      · skip
        refine z_iconst (q := 25) C k_iconst_0 dX6_rule_24 rfl ?_
        refine z_istore_n (q := 26) (lv' := [(2, .int (nI 0)), (0, .ref hm), (1, .int x)]) C rfl dX6_rule_25 rfl (by decide) rfl ?_
        refine z_iconst (q := 27) C k_iconst_0 dX6_rule_26 rfl ?_
        refine z_istore_n (q := 28) (lv' := [(3, .int (nI 0)), (2, .int (nI 0)), (0, .ref hm), (1, .int x)]) C rfl dX6_rule_27 rfl (by decide) rfl ?_
        refine z_lv [2, 3, 1, 0] rfl ?_
        exact l_X6_rule hm e M mb ak cnt k nl n m md fu L hC x (if_pos ⟨c2, c8⟩) C E (n + 1) 0 (by omega) (by omega)
      · skip
        exact absurd c19 (by decide)
    · skip
      refine z_iconst (q := 12) C k_iconst_1 dX6_rule_11 rfl ?_
      refine z_goto (tgt := 16) C dX6_rule_12 (by decide) ?_
      refine z_callV (q := 19) (n := 1) (As := [.int (nI 1)]) (rest := []) (wr := [(e 0, .inl (X.cI, 240, .inl (M 0))), (e 1, .inl (X.cI, 40, .inl (M 1))), (e 2, .inl (X.cI, 4200, .inl (M 2))), (e 3, .inl (X.cI, 4207, .inl (M 3))), (e 4, .inl (X.cI, 2048, .inl (M 4))), (e 5, .inl (X.cI, 600, .inl (M 5)))]) C (c_X6_refuses X.l X.D X.2.1 hm e M cd mb ak cnt k nl n m md fu 1 (by omega)) gX6_rule_X6_refuses rfl rfl rfl (by decide +kernel) (by decide) ⟨by first | decide | omega, by first | decide | omega⟩ 0 6 rfl rfl [0] [1, 2, 3, 4, 5, 6] rfl rfl (by decide) (by decide) (by decide) rfl rfl (Nat.le_of_ble_eq_true rfl) dX6_rule_16 rfl (fun v w1 hp => ?_)
      obtain ⟨rfl, rfl⟩ := hp
      show zW X 4 [(e 0, .inl (X.cI, 240, .inl (M 0))), (e 1, .inl (X.cI, 40, .inl (M 1))), (e 2, .inl (X.cI, 4200, .inl (M 2))), (e 3, .inl (X.cI, 4207, .inl (M 3))), (e 4, .inl (X.cI, 2048, .inl (M 4))), (e 5, .inl (X.cI, 600, .inl (M 5))), (hm, .inr (6, [.int (nI 1), .int (zb mb), .int (zb ak), .int (nI cnt), .int (nI k), .ref (e 0), .int (nI nl), .ref (e 1), .int (nI n), .ref (e 2), .int (nI m), .int (nI md), .ref (e 3), .ref (e 4), .int (zb fu), .ref (e 5)]))] _ _ 19 _ [.int (zb (decide (0 < 1)))]
      refine z_ws (ws' := [(hm, .inr (6, [.int (nI 1), .int (zb mb), .int (zb ak), .int (nI cnt), .int (nI k), .ref (e 0), .int (nI nl), .ref (e 1), .int (nI n), .ref (e 2), .int (nI m), .int (nI md), .ref (e 3), .ref (e 4), .int (zb fu), .ref (e 5)])), (e 0, .inl (X.cI, 240, .inl (M 0))), (e 1, .inl (X.cI, 40, .inl (M 1))), (e 2, .inl (X.cI, 4200, .inl (M 2))), (e 3, .inl (X.cI, 4207, .inl (M 3))), (e 4, .inl (X.cI, 2048, .inl (M 4))), (e 5, .inl (X.cI, 600, .inl (M 5)))]) [6, 0, 1, 2, 3, 4, 5] (by decide) rfl ?_
      refine z_if_eq_b (q := 22) (tgt := 24) C dX6_rule_19 (by decide) rfl (fun c19 => ?_) (fun c19 => ?_)
      · skip
        exact absurd c19 (by decide)
      · skip
        refine z_iconst (q := 23) C k_iconst_0 dX6_rule_22 rfl ?_
        refine z_iret C E (by omega) (by omega) dX6_rule_23 ?_
        exact Or.inl ⟨if_neg (by omega), rfl, rfl⟩

set_option maxHeartbeats 4000000 in
set_option maxRecDepth 100000 in
theorem l_X6_told3 {X : zX} (hm : Nat) (e : Nat → Nat) (M : Nat → Nat → Int32) (mb ak : Bool) (cnt k nl n m md : Nat) (fu : Bool) (L : List Row) (hC : cloRep (M 2) n L) (hk : k ≤ 80) (hnl : nl ≤ 40) (hmm : m ≤ 9) (C : zC X cX6_told 5 RX6 wsX6_told ({ frames := 1, cells := 0, slots := 0, locals := 21 } : Room)) (E : zE X (some .int) 0 0 (fun v w1 => (cdTol (nI 3) = 1 ∧ v = some (.int (nI 0)) ∧ w1 = [(hm, .inr (6, [.int (nI 1), .int (zb mb), .int (zb ak), .int (nI cnt), .int (nI k), .ref (e 0), .int (nI nl), .ref (e 1), .int (nI n), .ref (e 2), .int (nI m), .int (nI md), .ref (e 3), .ref (e 4), .int (zb fu), .ref (e 5)])), (e 0, .inl (X.cI, 240, .inl (M 0))), (e 1, .inl (X.cI, 40, .inl (M 1))), (e 2, .inl (X.cI, 4200, .inl (M 2))), (e 3, .inl (X.cI, 4207, .inl (M 3))), (e 4, .inl (X.cI, 2048, .inl (M 4))), (e 5, .inl (X.cI, 600, .inl (M 5)))]) ∨ (cdTol (nI 3) = 0 ∧ v = some (.int (vaTol L k nl m (nI 3))) ∧ w1 = [(hm, .inr (6, [.int (nI 0), .int (zb mb), .int (zb ak), .int (nI cnt), .int (nI k), .ref (e 0), .int (nI nl), .ref (e 1), .int (nI n), .ref (e 2), .int (nI m), .int (nI md), .ref (e 3), .ref (e 4), .int (zb fu), .ref (e 5)])), (e 0, .inl (X.cI, 240, .inl (M 0))), (e 1, .inl (X.cI, 40, .inl (M 1))), (e 2, .inl (X.cI, 4200, .inl (M 2))), (e 3, .inl (X.cI, 4207, .inl (M 3))), (e 4, .inl (X.cI, 2048, .inl (M 4))), (e 5, .inl (X.cI, 600, .inl (M 5)))]))) : ∀ (z : Nat) (i : Nat), i ≤ n → n < i + z → zW X 5 [(hm, .inr (6, [.int (nI 0), .int (zb mb), .int (zb ak), .int (nI cnt), .int (nI k), .ref (e 0), .int (nI nl), .ref (e 1), .int (nI n), .ref (e 2), .int (nI m), .int (nI md), .ref (e 3), .ref (e 4), .int (zb fu), .ref (e 5)])), (e 0, .inl (X.cI, 240, .inl (M 0))), (e 1, .inl (X.cI, 40, .inl (M 1))), (e 2, .inl (X.cI, 4200, .inl (M 2))), (e 3, .inl (X.cI, 4207, .inl (M 3))), (e 4, .inl (X.cI, 2048, .inl (M 4))), (e 5, .inl (X.cI, 600, .inl (M 5)))] 0 0 60 [(0, .ref hm), (1, .int (nI 3)), (2, .int (nI (cntN litP L i))), (3, .int (nI i))] [] := by
  have hiX6 : ∀ w ∈ u_ws RX6 TX6 16, w ∈ wsX6_told := by decide +kernel
  have hf20 : Cond.fieldLink RX6 20 "RdfsRulesModel" "closure" "[I" ∈ wsX6_told := by decide +kernel
  have hf109 : Cond.fieldLink RX6 109 "RdfsRulesModel" "rows" "I" ∈ wsX6_told := by decide +kernel
  intro z
  induction z with
  | zero =>
    intro i hi hz
    exfalso
    omega
  | succ z ih =>
    intro i hi hz
    have hn6 := hC.2.1
    have hcl := cntN_le litP L i
    refine z_iload_n (q := 61) C 3 rfl rfl dX6_told_60 rfl ?_
    refine z_aload_n (q := 62) C 0 rfl rfl dX6_told_61 rfl ?_
    refine z_get (q := 65) (v := .int (nI n)) C hiX6 0 8 rfl rfl (by decide) hf109 rfl dX6_told_62 rfl ?_
    refine z_icmp_ge_n (q := 68) (tgt := 142) C (by omega) (by omega) dX6_told_65 (by decide) rfl (fun c65 => ?_) (fun c65 => ?_)
    · skip
      refine z_iload_n (q := 143) C 2 rfl rfl dX6_told_142 rfl ?_
      refine z_iret C E (by omega) (by omega) dX6_told_143 ?_
      obtain rfl : i = n := by omega
      exact Or.inr ⟨by decide, by rw [← hC.1]; rfl, rfl⟩
    · skip
      have hlt : i < n := c65
      refine z_aload_n (q := 69) C 0 rfl rfl dX6_told_68 rfl ?_
      refine z_get (q := 72) (v := .ref (e 2)) C hiX6 0 9 rfl rfl (by decide) hf20 rfl dX6_told_69 rfl ?_
      refine z_bipush (q := 74) C k_bipush_7 dX6_told_72 rfl ?_
      refine z_iload_n (q := 75) C 3 rfl rfl dX6_told_74 rfl ?_
      refine z_imul (q := 76) C dX6_told_75 rfl ?_
      refine z_eqi (y := nI (7 * i)) (pk_mul 7 i) ?_
      refine z_iconst (q := 77) C k_iconst_1 dX6_told_76 rfl ?_
      refine z_iadd (q := 78) C dX6_told_77 rfl ?_
      refine z_eqi (y := nI ((7 * i) + 1)) (nI_add (7 * i) 1) ?_
      refine z_iald (q := 79) C 3 rfl (i := (7 * i) + 1) (by omega) (by decide) dX6_told_78 rfl ?_
      refine z_istore (q := 81) (lv' := [(4, .int ((M 2) ((7 * i) + 1))), (0, .ref hm), (1, .int (nI 3)), (2, .int (nI (cntN litP L i))), (3, .int (nI i))]) C dX6_told_79 rfl (by decide) rfl ?_
      refine z_iload_n (q := 82) C 3 rfl rfl dX6_told_81 rfl ?_
      refine z_iload_n (q := 83) C 2 rfl rfl dX6_told_82 rfl ?_
      refine z_iconst (q := 84) C k_iconst_3 dX6_told_83 rfl ?_
      refine z_icmp_ne_n (q := 87) (tgt := 110) C (by omega) (by omega) dX6_told_84 (by decide) rfl (fun c84 => ?_) (fun c84 => ?_)
      · exact absurd c84 (by decide)
      · skip
        refine z_aload_n (q := 88) C 1 rfl rfl dX6_told_87 rfl ?_
        refine z_get (q := 91) (v := .ref (e 2)) C hiX6 0 9 rfl rfl (by decide) hf20 rfl dX6_told_88 rfl ?_
        refine z_bipush (q := 93) C k_bipush_7 dX6_told_91 rfl ?_
        refine z_iload_n (q := 94) C 4 rfl rfl dX6_told_93 rfl ?_
        refine z_imul (q := 95) C dX6_told_94 rfl ?_
        refine z_eqi (y := nI (7 * i)) (pk_mul 7 i) ?_
        refine z_iald (q := 96) C 3 rfl (i := 7 * i) (by omega) (by decide) dX6_told_95 rfl ?_
        refine z_sipush (q := 99) C k_sipush_300 dX6_told_96 rfl ?_
        refine z_icmp_lt_i (q := 102) (tgt := 106) C rfl ti_300 dX6_told_99 (by decide) rfl (fun c99 => ?_) (fun c99 => ?_)
        · skip
          refine z_iconst (q := 107) C k_iconst_0 dX6_told_106 rfl ?_
          refine z_goto (tgt := 134) C dX6_told_107 (by decide) ?_
          refine z_iadd (q := 135) C dX6_told_134 rfl ?_
          refine z_eqi (y := nI ((cntN litP L i) + 0)) (nI_add (cntN litP L i) 0) ?_
          refine z_eqi (y := nI (cntN litP L (i + 1))) (congrArg nI (by rw [cntN_f (decide_eq_false (by rw [← hC.at0 hlt]; omega))]; rfl)) ?_
          refine z_istore_n (q := 136) (lv' := [(2, .int (nI (cntN litP L (i + 1)))), (4, .int ((M 2) ((7 * i) + 1))), (0, .ref hm), (1, .int (nI 3)), (3, .int (nI i))]) C rfl dX6_told_135 rfl (by decide) rfl ?_
          refine z_iinc (q := 139) (v := nI (i + 1)) (lv' := [(3, .int (nI (i + 1))), (2, .int (nI (cntN litP L (i + 1)))), (4, .int ((M 2) ((7 * i) + 1))), (0, .ref hm), (1, .int (nI 3))]) C 4 dX6_told_136 rfl rfl (k_inc1 i) (by decide) rfl ?_
          refine z_goto (tgt := 60) C dX6_told_139 (by decide) ?_
          refine z_lv [3, 4, 1, 0] rfl ?_
          exact ih (i + 1) (by omega) (by omega)
        · skip
          refine z_iconst (q := 103) C k_iconst_1 dX6_told_102 rfl ?_
          refine z_goto (tgt := 134) C dX6_told_103 (by decide) ?_
          refine z_iadd (q := 135) C dX6_told_134 rfl ?_
          refine z_eqi (y := nI ((cntN litP L i) + 1)) (nI_add (cntN litP L i) 1) ?_
          refine z_eqi (y := nI (cntN litP L (i + 1))) (congrArg nI (by rw [cntN_t (decide_eq_true (by rw [← hC.at0 hlt]; omega))])) ?_
          refine z_istore_n (q := 136) (lv' := [(2, .int (nI (cntN litP L (i + 1)))), (4, .int ((M 2) ((7 * i) + 1))), (0, .ref hm), (1, .int (nI 3)), (3, .int (nI i))]) C rfl dX6_told_135 rfl (by decide) rfl ?_
          refine z_iinc (q := 139) (v := nI (i + 1)) (lv' := [(3, .int (nI (i + 1))), (2, .int (nI (cntN litP L (i + 1)))), (4, .int ((M 2) ((7 * i) + 1))), (0, .ref hm), (1, .int (nI 3))]) C 4 dX6_told_136 rfl rfl (k_inc1 i) (by decide) rfl ?_
          refine z_goto (tgt := 60) C dX6_told_139 (by decide) ?_
          refine z_lv [3, 4, 1, 0] rfl ?_
          exact ih (i + 1) (by omega) (by omega)

set_option maxHeartbeats 4000000 in
set_option maxRecDepth 100000 in
theorem l_X6_told4 {X : zX} (hm : Nat) (e : Nat → Nat) (M : Nat → Nat → Int32) (mb ak : Bool) (cnt k nl n m md : Nat) (fu : Bool) (L : List Row) (hC : cloRep (M 2) n L) (hk : k ≤ 80) (hnl : nl ≤ 40) (hmm : m ≤ 9) (C : zC X cX6_told 5 RX6 wsX6_told ({ frames := 1, cells := 0, slots := 0, locals := 21 } : Room)) (E : zE X (some .int) 0 0 (fun v w1 => (cdTol (nI 4) = 1 ∧ v = some (.int (nI 0)) ∧ w1 = [(hm, .inr (6, [.int (nI 1), .int (zb mb), .int (zb ak), .int (nI cnt), .int (nI k), .ref (e 0), .int (nI nl), .ref (e 1), .int (nI n), .ref (e 2), .int (nI m), .int (nI md), .ref (e 3), .ref (e 4), .int (zb fu), .ref (e 5)])), (e 0, .inl (X.cI, 240, .inl (M 0))), (e 1, .inl (X.cI, 40, .inl (M 1))), (e 2, .inl (X.cI, 4200, .inl (M 2))), (e 3, .inl (X.cI, 4207, .inl (M 3))), (e 4, .inl (X.cI, 2048, .inl (M 4))), (e 5, .inl (X.cI, 600, .inl (M 5)))]) ∨ (cdTol (nI 4) = 0 ∧ v = some (.int (vaTol L k nl m (nI 4))) ∧ w1 = [(hm, .inr (6, [.int (nI 0), .int (zb mb), .int (zb ak), .int (nI cnt), .int (nI k), .ref (e 0), .int (nI nl), .ref (e 1), .int (nI n), .ref (e 2), .int (nI m), .int (nI md), .ref (e 3), .ref (e 4), .int (zb fu), .ref (e 5)])), (e 0, .inl (X.cI, 240, .inl (M 0))), (e 1, .inl (X.cI, 40, .inl (M 1))), (e 2, .inl (X.cI, 4200, .inl (M 2))), (e 3, .inl (X.cI, 4207, .inl (M 3))), (e 4, .inl (X.cI, 2048, .inl (M 4))), (e 5, .inl (X.cI, 600, .inl (M 5)))]))) : ∀ (z : Nat) (i : Nat), i ≤ n → n < i + z → zW X 5 [(hm, .inr (6, [.int (nI 0), .int (zb mb), .int (zb ak), .int (nI cnt), .int (nI k), .ref (e 0), .int (nI nl), .ref (e 1), .int (nI n), .ref (e 2), .int (nI m), .int (nI md), .ref (e 3), .ref (e 4), .int (zb fu), .ref (e 5)])), (e 0, .inl (X.cI, 240, .inl (M 0))), (e 1, .inl (X.cI, 40, .inl (M 1))), (e 2, .inl (X.cI, 4200, .inl (M 2))), (e 3, .inl (X.cI, 4207, .inl (M 3))), (e 4, .inl (X.cI, 2048, .inl (M 4))), (e 5, .inl (X.cI, 600, .inl (M 5)))] 0 0 60 [(0, .ref hm), (1, .int (nI 4)), (2, .int (nI (cntN (memP m) L i))), (3, .int (nI i))] [] := by
  have hiX6 : ∀ w ∈ u_ws RX6 TX6 16, w ∈ wsX6_told := by decide +kernel
  have hf20 : Cond.fieldLink RX6 20 "RdfsRulesModel" "closure" "[I" ∈ wsX6_told := by decide +kernel
  have hf109 : Cond.fieldLink RX6 109 "RdfsRulesModel" "rows" "I" ∈ wsX6_told := by decide +kernel
  have hf112 : Cond.fieldLink RX6 112 "RdfsRulesModel" "among" "I" ∈ wsX6_told := by decide +kernel
  intro z
  induction z with
  | zero =>
    intro i hi hz
    exfalso
    omega
  | succ z ih =>
    intro i hi hz
    have hn6 := hC.2.1
    have hcl := cntN_le (memP m) L i
    refine z_iload_n (q := 61) C 3 rfl rfl dX6_told_60 rfl ?_
    refine z_aload_n (q := 62) C 0 rfl rfl dX6_told_61 rfl ?_
    refine z_get (q := 65) (v := .int (nI n)) C hiX6 0 8 rfl rfl (by decide) hf109 rfl dX6_told_62 rfl ?_
    refine z_icmp_ge_n (q := 68) (tgt := 142) C (by omega) (by omega) dX6_told_65 (by decide) rfl (fun c65 => ?_) (fun c65 => ?_)
    · skip
      refine z_iload_n (q := 143) C 2 rfl rfl dX6_told_142 rfl ?_
      refine z_iret C E (by omega) (by omega) dX6_told_143 ?_
      obtain rfl : i = n := by omega
      exact Or.inr ⟨by decide, by rw [← hC.1]; rfl, rfl⟩
    · skip
      have hlt : i < n := c65
      refine z_aload_n (q := 69) C 0 rfl rfl dX6_told_68 rfl ?_
      refine z_get (q := 72) (v := .ref (e 2)) C hiX6 0 9 rfl rfl (by decide) hf20 rfl dX6_told_69 rfl ?_
      refine z_bipush (q := 74) C k_bipush_7 dX6_told_72 rfl ?_
      refine z_iload_n (q := 75) C 3 rfl rfl dX6_told_74 rfl ?_
      refine z_imul (q := 76) C dX6_told_75 rfl ?_
      refine z_eqi (y := nI (7 * i)) (pk_mul 7 i) ?_
      refine z_iconst (q := 77) C k_iconst_1 dX6_told_76 rfl ?_
      refine z_iadd (q := 78) C dX6_told_77 rfl ?_
      refine z_eqi (y := nI ((7 * i) + 1)) (nI_add (7 * i) 1) ?_
      refine z_iald (q := 79) C 3 rfl (i := (7 * i) + 1) (by omega) (by decide) dX6_told_78 rfl ?_
      refine z_istore (q := 81) (lv' := [(4, .int ((M 2) ((7 * i) + 1))), (0, .ref hm), (1, .int (nI 4)), (2, .int (nI (cntN (memP m) L i))), (3, .int (nI i))]) C dX6_told_79 rfl (by decide) rfl ?_
      refine z_iload_n (q := 82) C 3 rfl rfl dX6_told_81 rfl ?_
      refine z_iload_n (q := 83) C 2 rfl rfl dX6_told_82 rfl ?_
      refine z_iconst (q := 84) C k_iconst_3 dX6_told_83 rfl ?_
      refine z_icmp_ne_n (q := 87) (tgt := 110) C (by omega) (by omega) dX6_told_84 (by decide) rfl (fun c84 => ?_) (fun c84 => ?_)
      · skip
        refine z_iload (q := 112) C 0 rfl dX6_told_110 rfl ?_
        refine z_bipush (q := 114) C k_bipush_20 dX6_told_112 rfl ?_
        refine z_aload_n (q := 115) C 1 rfl rfl dX6_told_114 rfl ?_
        refine z_get (q := 118) (v := .int (nI m)) C hiX6 0 10 rfl rfl (by decide) hf112 rfl dX6_told_115 rfl ?_
        refine z_iadd (q := 119) C dX6_told_118 rfl ?_
        refine z_eqi (y := nI (20 + m)) (nI_add 20 m) ?_
        refine z_icmp_lt_i (q := 122) (tgt := 133) C rfl (nI_toInt (n := 20 + m) (by omega)) dX6_told_119 (by decide) rfl (fun c119 => ?_) (fun c119 => ?_)
        · skip
          refine z_iconst (q := 134) C k_iconst_0 dX6_told_133 rfl ?_
          refine z_iadd (q := 135) C dX6_told_134 rfl ?_
          refine z_eqi (y := nI ((cntN (memP m) L i) + 0)) (nI_add (cntN (memP m) L i) 0) ?_
          refine z_eqi (y := nI (cntN (memP m) L (i + 1))) (congrArg nI (by rw [cntN_f (decide_eq_false (by rw [← hC.at (j := 1) hlt (by omega)]; omega))]; rfl)) ?_
          refine z_istore_n (q := 136) (lv' := [(2, .int (nI (cntN (memP m) L (i + 1)))), (4, .int ((M 2) ((7 * i) + 1))), (0, .ref hm), (1, .int (nI 4)), (3, .int (nI i))]) C rfl dX6_told_135 rfl (by decide) rfl ?_
          refine z_iinc (q := 139) (v := nI (i + 1)) (lv' := [(3, .int (nI (i + 1))), (2, .int (nI (cntN (memP m) L (i + 1)))), (4, .int ((M 2) ((7 * i) + 1))), (0, .ref hm), (1, .int (nI 4))]) C 4 dX6_told_136 rfl rfl (k_inc1 i) (by decide) rfl ?_
          refine z_goto (tgt := 60) C dX6_told_139 (by decide) ?_
          refine z_lv [3, 4, 1, 0] rfl ?_
          exact ih (i + 1) (by omega) (by omega)
        · skip
          refine z_iload (q := 124) C 0 rfl dX6_told_122 rfl ?_
          refine z_bipush (q := 126) C k_bipush_28 dX6_told_124 rfl ?_
          refine z_icmp_gt_i (q := 129) (tgt := 133) C rfl ti_28 dX6_told_126 (by decide) rfl (fun c126 => ?_) (fun c126 => ?_)
          · skip
            refine z_iconst (q := 134) C k_iconst_0 dX6_told_133 rfl ?_
            refine z_iadd (q := 135) C dX6_told_134 rfl ?_
            refine z_eqi (y := nI ((cntN (memP m) L i) + 0)) (nI_add (cntN (memP m) L i) 0) ?_
            refine z_eqi (y := nI (cntN (memP m) L (i + 1))) (congrArg nI (by rw [cntN_f (decide_eq_false (by rw [← hC.at (j := 1) hlt (by omega)]; omega))]; rfl)) ?_
            refine z_istore_n (q := 136) (lv' := [(2, .int (nI (cntN (memP m) L (i + 1)))), (4, .int ((M 2) ((7 * i) + 1))), (0, .ref hm), (1, .int (nI 4)), (3, .int (nI i))]) C rfl dX6_told_135 rfl (by decide) rfl ?_
            refine z_iinc (q := 139) (v := nI (i + 1)) (lv' := [(3, .int (nI (i + 1))), (2, .int (nI (cntN (memP m) L (i + 1)))), (4, .int ((M 2) ((7 * i) + 1))), (0, .ref hm), (1, .int (nI 4))]) C 4 dX6_told_136 rfl rfl (k_inc1 i) (by decide) rfl ?_
            refine z_goto (tgt := 60) C dX6_told_139 (by decide) ?_
            refine z_lv [3, 4, 1, 0] rfl ?_
            exact ih (i + 1) (by omega) (by omega)
          · skip
            refine z_iconst (q := 130) C k_iconst_1 dX6_told_129 rfl ?_
            refine z_goto (tgt := 134) C dX6_told_130 (by decide) ?_
            refine z_iadd (q := 135) C dX6_told_134 rfl ?_
            refine z_eqi (y := nI ((cntN (memP m) L i) + 1)) (nI_add (cntN (memP m) L i) 1) ?_
            refine z_eqi (y := nI (cntN (memP m) L (i + 1))) (congrArg nI (by rw [cntN_t (decide_eq_true (by rw [← hC.at (j := 1) hlt (by omega)]; omega))])) ?_
            refine z_istore_n (q := 136) (lv' := [(2, .int (nI (cntN (memP m) L (i + 1)))), (4, .int ((M 2) ((7 * i) + 1))), (0, .ref hm), (1, .int (nI 4)), (3, .int (nI i))]) C rfl dX6_told_135 rfl (by decide) rfl ?_
            refine z_iinc (q := 139) (v := nI (i + 1)) (lv' := [(3, .int (nI (i + 1))), (2, .int (nI (cntN (memP m) L (i + 1)))), (4, .int ((M 2) ((7 * i) + 1))), (0, .ref hm), (1, .int (nI 4))]) C 4 dX6_told_136 rfl rfl (k_inc1 i) (by decide) rfl ?_
            refine z_goto (tgt := 60) C dX6_told_139 (by decide) ?_
            refine z_lv [3, 4, 1, 0] rfl ?_
            exact ih (i + 1) (by omega) (by omega)
      · exact absurd c84 (by decide)

set_option maxHeartbeats 4000000 in
set_option maxRecDepth 100000 in
theorem c_X6_told (l : Launch) (D : va_G) (g : ClassId × ClassId × ClassId) (hm : Nat) (e : Nat → Nat) (M : Nat → Nat → Int32) (cd : Int32) (mb ak : Bool) (cnt k nl n m md : Nat) (fu : Bool) (L : List Row) (hC : cloRep (M 2) n L) (hk : k ≤ 80) (hnl : nl ≤ 40) (hmm : m ≤ 9) (x : Int32) : zM l yX6_told wsX6_told ({ frames := 1, cells := 0, slots := 0, locals := 21 } : Room) D g [.ref hm, .int x] [(hm, .inr (6, [.int cd, .int (zb mb), .int (zb ak), .int (nI cnt), .int (nI k), .ref (e 0), .int (nI nl), .ref (e 1), .int (nI n), .ref (e 2), .int (nI m), .int (nI md), .ref (e 3), .ref (e 4), .int (zb fu), .ref (e 5)])), (e 0, .inl (g.1, 240, .inl (M 0))), (e 1, .inl (g.1, 40, .inl (M 1))), (e 2, .inl (g.1, 4200, .inl (M 2))), (e 3, .inl (g.1, 4207, .inl (M 3))), (e 4, .inl (g.1, 2048, .inl (M 4))), (e 5, .inl (g.1, 600, .inl (M 5)))] 0 0 (fun v w1 => (cdTol x = 1 ∧ v = some (.int (nI 0)) ∧ w1 = [(hm, .inr (6, [.int (nI 1), .int (zb mb), .int (zb ak), .int (nI cnt), .int (nI k), .ref (e 0), .int (nI nl), .ref (e 1), .int (nI n), .ref (e 2), .int (nI m), .int (nI md), .ref (e 3), .ref (e 4), .int (zb fu), .ref (e 5)])), (e 0, .inl (g.1, 240, .inl (M 0))), (e 1, .inl (g.1, 40, .inl (M 1))), (e 2, .inl (g.1, 4200, .inl (M 2))), (e 3, .inl (g.1, 4207, .inl (M 3))), (e 4, .inl (g.1, 2048, .inl (M 4))), (e 5, .inl (g.1, 600, .inl (M 5)))]) ∨ (cdTol x = 0 ∧ v = some (.int (vaTol L k nl m x)) ∧ w1 = [(hm, .inr (6, [.int (nI 0), .int (zb mb), .int (zb ak), .int (nI cnt), .int (nI k), .ref (e 0), .int (nI nl), .ref (e 1), .int (nI n), .ref (e 2), .int (nI m), .int (nI md), .ref (e 3), .ref (e 4), .int (zb fu), .ref (e 5)])), (e 0, .inl (g.1, 240, .inl (M 0))), (e 1, .inl (g.1, 40, .inl (M 1))), (e 2, .inl (g.1, 4200, .inl (M 2))), (e 3, .inl (g.1, 4207, .inl (M 3))), (e 4, .inl (g.1, 2048, .inl (M 4))), (e 5, .inl (g.1, 600, .inl (M 5)))])) := by
  refine z_met (cc := cX6_told) (maxL := 5) (ret := (some .int)) (lv := [(0, .ref hm), (1, .int x)]) (by decide) rfl (Nat.le_of_ble_eq_true rfl) rfl ?_
  intro X hXD hXg hXl hnm C E
  subst hXD hXg hXl
  have C : zC X cX6_told 5 RX6 wsX6_told ({ frames := 1, cells := 0, slots := 0, locals := 21 } : Room) := C
  have hiX6 : ∀ w ∈ u_ws RX6 TX6 16, w ∈ wsX6_told := by decide +kernel
  have hf39 : Cond.fieldLink RX6 39 "RdfsRulesModel" "literals" "I" ∈ wsX6_told := by decide +kernel
  have hf49 : Cond.fieldLink RX6 49 "RdfsRulesModel" "given" "I" ∈ wsX6_told := by decide +kernel
  have hf109 : Cond.fieldLink RX6 109 "RdfsRulesModel" "rows" "I" ∈ wsX6_told := by decide +kernel
  have hn6 := hC.2.1
  refine z_aload_n (q := 1) C 0 rfl rfl dX6_told_0 rfl ?_
  refine z_iload_n (q := 2) C 1 rfl rfl dX6_told_1 rfl ?_
  refine z_if_lt_i (q := 5) (tgt := 10) C rfl dX6_told_2 (by decide) rfl (fun c2 => ?_) (fun c2 => ?_)
  · skip
    refine z_iconst (q := 11) C k_iconst_1 dX6_told_10 rfl ?_
    refine z_goto (tgt := 15) C dX6_told_11 (by decide) ?_
    refine z_callV (q := 18) (n := 1) (As := [.int (nI 1)]) (rest := []) (wr := [(e 0, .inl (X.cI, 240, .inl (M 0))), (e 1, .inl (X.cI, 40, .inl (M 1))), (e 2, .inl (X.cI, 4200, .inl (M 2))), (e 3, .inl (X.cI, 4207, .inl (M 3))), (e 4, .inl (X.cI, 2048, .inl (M 4))), (e 5, .inl (X.cI, 600, .inl (M 5)))]) C (c_X6_refuses X.l X.D X.2.1 hm e M cd mb ak cnt k nl n m md fu 1 (by omega)) gX6_told_X6_refuses rfl rfl rfl (by decide +kernel) (by decide) ⟨by first | decide | omega, by first | decide | omega⟩ 0 6 rfl rfl [0] [1, 2, 3, 4, 5, 6] rfl rfl (by decide) (by decide) (by decide) rfl rfl (Nat.le_of_ble_eq_true rfl) dX6_told_15 rfl (fun v w1 hp => ?_)
    obtain ⟨rfl, rfl⟩ := hp
    show zW X 5 [(e 0, .inl (X.cI, 240, .inl (M 0))), (e 1, .inl (X.cI, 40, .inl (M 1))), (e 2, .inl (X.cI, 4200, .inl (M 2))), (e 3, .inl (X.cI, 4207, .inl (M 3))), (e 4, .inl (X.cI, 2048, .inl (M 4))), (e 5, .inl (X.cI, 600, .inl (M 5))), (hm, .inr (6, [.int (nI 1), .int (zb mb), .int (zb ak), .int (nI cnt), .int (nI k), .ref (e 0), .int (nI nl), .ref (e 1), .int (nI n), .ref (e 2), .int (nI m), .int (nI md), .ref (e 3), .ref (e 4), .int (zb fu), .ref (e 5)]))] _ _ 18 _ [.int (zb (decide (0 < 1)))]
    refine z_ws (ws' := [(hm, .inr (6, [.int (nI 1), .int (zb mb), .int (zb ak), .int (nI cnt), .int (nI k), .ref (e 0), .int (nI nl), .ref (e 1), .int (nI n), .ref (e 2), .int (nI m), .int (nI md), .ref (e 3), .ref (e 4), .int (zb fu), .ref (e 5)])), (e 0, .inl (X.cI, 240, .inl (M 0))), (e 1, .inl (X.cI, 40, .inl (M 1))), (e 2, .inl (X.cI, 4200, .inl (M 2))), (e 3, .inl (X.cI, 4207, .inl (M 3))), (e 4, .inl (X.cI, 2048, .inl (M 4))), (e 5, .inl (X.cI, 600, .inl (M 5)))]) [6, 0, 1, 2, 3, 4, 5] (by decide) rfl ?_
    refine z_if_eq_b (q := 21) (tgt := 23) C dX6_told_18 (by decide) rfl (fun c18 => ?_) (fun c18 => ?_)
    · skip
      exact absurd c18 (by decide)
    · skip
      refine z_iconst (q := 22) C k_iconst_0 dX6_told_21 rfl ?_
      refine z_iret C E (by omega) (by omega) dX6_told_22 ?_
      exact Or.inl ⟨if_neg (by omega), rfl, rfl⟩
  · skip
    refine z_iload_n (q := 6) C 1 rfl rfl dX6_told_5 rfl ?_
    refine z_iconst (q := 7) C k_iconst_4 dX6_told_6 rfl ?_
    refine z_icmp_le_i (q := 10) (tgt := 14) C rfl ti_4 dX6_told_7 (by decide) rfl (fun c7 => ?_) (fun c7 => ?_)
    · skip
      obtain ⟨z, hz, rfl⟩ := i_of 4 c2 c7
      rcases (show z = 0 ∨ z = 1 ∨ z = 2 ∨ z = 3 ∨ z = 4 by omega) with rfl | rfl | rfl | rfl | rfl
      · skip
        refine z_iconst (q := 15) C k_iconst_0 dX6_told_14 rfl ?_
        refine z_callV (q := 18) (n := 1) (As := [.int (nI 0)]) (rest := []) (wr := [(e 0, .inl (X.cI, 240, .inl (M 0))), (e 1, .inl (X.cI, 40, .inl (M 1))), (e 2, .inl (X.cI, 4200, .inl (M 2))), (e 3, .inl (X.cI, 4207, .inl (M 3))), (e 4, .inl (X.cI, 2048, .inl (M 4))), (e 5, .inl (X.cI, 600, .inl (M 5)))]) C (c_X6_refuses X.l X.D X.2.1 hm e M cd mb ak cnt k nl n m md fu 0 (by omega)) gX6_told_X6_refuses rfl rfl rfl (by decide +kernel) (by decide) ⟨by first | decide | omega, by first | decide | omega⟩ 0 6 rfl rfl [0] [1, 2, 3, 4, 5, 6] rfl rfl (by decide) (by decide) (by decide) rfl rfl (Nat.le_of_ble_eq_true rfl) dX6_told_15 rfl (fun v w1 hp => ?_)
        obtain ⟨rfl, rfl⟩ := hp
        show zW X 5 [(e 0, .inl (X.cI, 240, .inl (M 0))), (e 1, .inl (X.cI, 40, .inl (M 1))), (e 2, .inl (X.cI, 4200, .inl (M 2))), (e 3, .inl (X.cI, 4207, .inl (M 3))), (e 4, .inl (X.cI, 2048, .inl (M 4))), (e 5, .inl (X.cI, 600, .inl (M 5))), (hm, .inr (6, [.int (nI 0), .int (zb mb), .int (zb ak), .int (nI cnt), .int (nI k), .ref (e 0), .int (nI nl), .ref (e 1), .int (nI n), .ref (e 2), .int (nI m), .int (nI md), .ref (e 3), .ref (e 4), .int (zb fu), .ref (e 5)]))] _ _ 18 _ [.int (zb (decide (0 < 0)))]
        refine z_ws (ws' := [(hm, .inr (6, [.int (nI 0), .int (zb mb), .int (zb ak), .int (nI cnt), .int (nI k), .ref (e 0), .int (nI nl), .ref (e 1), .int (nI n), .ref (e 2), .int (nI m), .int (nI md), .ref (e 3), .ref (e 4), .int (zb fu), .ref (e 5)])), (e 0, .inl (X.cI, 240, .inl (M 0))), (e 1, .inl (X.cI, 40, .inl (M 1))), (e 2, .inl (X.cI, 4200, .inl (M 2))), (e 3, .inl (X.cI, 4207, .inl (M 3))), (e 4, .inl (X.cI, 2048, .inl (M 4))), (e 5, .inl (X.cI, 600, .inl (M 5)))]) [6, 0, 1, 2, 3, 4, 5] (by decide) rfl ?_
        refine z_if_eq_b (q := 21) (tgt := 23) C dX6_told_18 (by decide) rfl (fun c18 => ?_) (fun c18 => ?_)
        · skip
          refine z_iload_n (q := 24) C 1 rfl rfl dX6_told_23 rfl ?_
          refine z_iconst (q := 25) C k_iconst_3 dX6_told_24 rfl ?_
          refine z_icmp_ge_n (q := 28) (tgt := 56) C (by omega) (by omega) dX6_told_25 (by decide) rfl (fun c25 => ?_) (fun c25 => ?_)
          · exact absurd c25 (by decide)
          · skip
            refine z_iload_n (q := 29) C 1 rfl rfl dX6_told_28 rfl ?_
            refine z_if_ne_n (q := 32) (tgt := 39) C (by omega) dX6_told_29 (by decide) rfl (fun c29 => ?_) (fun c29 => ?_)
            · exact absurd c29 (by decide)
            · skip
              refine z_aload_n (q := 33) C 0 rfl rfl dX6_told_32 rfl ?_
              refine z_get (q := 36) (v := .int (nI n)) C hiX6 0 8 rfl rfl (by decide) hf109 rfl dX6_told_33 rfl ?_
              refine z_goto (tgt := 55) C dX6_told_36 (by decide) ?_
              refine z_iret C E (by omega) (by omega) dX6_told_55 ?_
              exact Or.inr ⟨by decide, by first | rfl | (rw [← hC.1]; rfl), rfl⟩
        · skip
          exact absurd c18 (by decide)
      · skip
        refine z_iconst (q := 15) C k_iconst_0 dX6_told_14 rfl ?_
        refine z_callV (q := 18) (n := 1) (As := [.int (nI 0)]) (rest := []) (wr := [(e 0, .inl (X.cI, 240, .inl (M 0))), (e 1, .inl (X.cI, 40, .inl (M 1))), (e 2, .inl (X.cI, 4200, .inl (M 2))), (e 3, .inl (X.cI, 4207, .inl (M 3))), (e 4, .inl (X.cI, 2048, .inl (M 4))), (e 5, .inl (X.cI, 600, .inl (M 5)))]) C (c_X6_refuses X.l X.D X.2.1 hm e M cd mb ak cnt k nl n m md fu 0 (by omega)) gX6_told_X6_refuses rfl rfl rfl (by decide +kernel) (by decide) ⟨by first | decide | omega, by first | decide | omega⟩ 0 6 rfl rfl [0] [1, 2, 3, 4, 5, 6] rfl rfl (by decide) (by decide) (by decide) rfl rfl (Nat.le_of_ble_eq_true rfl) dX6_told_15 rfl (fun v w1 hp => ?_)
        obtain ⟨rfl, rfl⟩ := hp
        show zW X 5 [(e 0, .inl (X.cI, 240, .inl (M 0))), (e 1, .inl (X.cI, 40, .inl (M 1))), (e 2, .inl (X.cI, 4200, .inl (M 2))), (e 3, .inl (X.cI, 4207, .inl (M 3))), (e 4, .inl (X.cI, 2048, .inl (M 4))), (e 5, .inl (X.cI, 600, .inl (M 5))), (hm, .inr (6, [.int (nI 0), .int (zb mb), .int (zb ak), .int (nI cnt), .int (nI k), .ref (e 0), .int (nI nl), .ref (e 1), .int (nI n), .ref (e 2), .int (nI m), .int (nI md), .ref (e 3), .ref (e 4), .int (zb fu), .ref (e 5)]))] _ _ 18 _ [.int (zb (decide (0 < 0)))]
        refine z_ws (ws' := [(hm, .inr (6, [.int (nI 0), .int (zb mb), .int (zb ak), .int (nI cnt), .int (nI k), .ref (e 0), .int (nI nl), .ref (e 1), .int (nI n), .ref (e 2), .int (nI m), .int (nI md), .ref (e 3), .ref (e 4), .int (zb fu), .ref (e 5)])), (e 0, .inl (X.cI, 240, .inl (M 0))), (e 1, .inl (X.cI, 40, .inl (M 1))), (e 2, .inl (X.cI, 4200, .inl (M 2))), (e 3, .inl (X.cI, 4207, .inl (M 3))), (e 4, .inl (X.cI, 2048, .inl (M 4))), (e 5, .inl (X.cI, 600, .inl (M 5)))]) [6, 0, 1, 2, 3, 4, 5] (by decide) rfl ?_
        refine z_if_eq_b (q := 21) (tgt := 23) C dX6_told_18 (by decide) rfl (fun c18 => ?_) (fun c18 => ?_)
        · skip
          refine z_iload_n (q := 24) C 1 rfl rfl dX6_told_23 rfl ?_
          refine z_iconst (q := 25) C k_iconst_3 dX6_told_24 rfl ?_
          refine z_icmp_ge_n (q := 28) (tgt := 56) C (by omega) (by omega) dX6_told_25 (by decide) rfl (fun c25 => ?_) (fun c25 => ?_)
          · exact absurd c25 (by decide)
          · skip
            refine z_iload_n (q := 29) C 1 rfl rfl dX6_told_28 rfl ?_
            refine z_if_ne_n (q := 32) (tgt := 39) C (by omega) dX6_told_29 (by decide) rfl (fun c29 => ?_) (fun c29 => ?_)
            · skip
              refine z_iload_n (q := 40) C 1 rfl rfl dX6_told_39 rfl ?_
              refine z_iconst (q := 41) C k_iconst_1 dX6_told_40 rfl ?_
              refine z_icmp_ne_n (q := 44) (tgt := 51) C (by omega) (by omega) dX6_told_41 (by decide) rfl (fun c41 => ?_) (fun c41 => ?_)
              · exact absurd c41 (by decide)
              · skip
                refine z_aload_n (q := 45) C 0 rfl rfl dX6_told_44 rfl ?_
                refine z_get (q := 48) (v := .int (nI k)) C hiX6 0 4 rfl rfl (by decide) hf49 rfl dX6_told_45 rfl ?_
                refine z_goto (tgt := 55) C dX6_told_48 (by decide) ?_
                refine z_iret C E (by omega) (by omega) dX6_told_55 ?_
                exact Or.inr ⟨by decide, by first | rfl | (rw [← hC.1]; rfl), rfl⟩
            · exact absurd c29 (by decide)
        · skip
          exact absurd c18 (by decide)
      · skip
        refine z_iconst (q := 15) C k_iconst_0 dX6_told_14 rfl ?_
        refine z_callV (q := 18) (n := 1) (As := [.int (nI 0)]) (rest := []) (wr := [(e 0, .inl (X.cI, 240, .inl (M 0))), (e 1, .inl (X.cI, 40, .inl (M 1))), (e 2, .inl (X.cI, 4200, .inl (M 2))), (e 3, .inl (X.cI, 4207, .inl (M 3))), (e 4, .inl (X.cI, 2048, .inl (M 4))), (e 5, .inl (X.cI, 600, .inl (M 5)))]) C (c_X6_refuses X.l X.D X.2.1 hm e M cd mb ak cnt k nl n m md fu 0 (by omega)) gX6_told_X6_refuses rfl rfl rfl (by decide +kernel) (by decide) ⟨by first | decide | omega, by first | decide | omega⟩ 0 6 rfl rfl [0] [1, 2, 3, 4, 5, 6] rfl rfl (by decide) (by decide) (by decide) rfl rfl (Nat.le_of_ble_eq_true rfl) dX6_told_15 rfl (fun v w1 hp => ?_)
        obtain ⟨rfl, rfl⟩ := hp
        show zW X 5 [(e 0, .inl (X.cI, 240, .inl (M 0))), (e 1, .inl (X.cI, 40, .inl (M 1))), (e 2, .inl (X.cI, 4200, .inl (M 2))), (e 3, .inl (X.cI, 4207, .inl (M 3))), (e 4, .inl (X.cI, 2048, .inl (M 4))), (e 5, .inl (X.cI, 600, .inl (M 5))), (hm, .inr (6, [.int (nI 0), .int (zb mb), .int (zb ak), .int (nI cnt), .int (nI k), .ref (e 0), .int (nI nl), .ref (e 1), .int (nI n), .ref (e 2), .int (nI m), .int (nI md), .ref (e 3), .ref (e 4), .int (zb fu), .ref (e 5)]))] _ _ 18 _ [.int (zb (decide (0 < 0)))]
        refine z_ws (ws' := [(hm, .inr (6, [.int (nI 0), .int (zb mb), .int (zb ak), .int (nI cnt), .int (nI k), .ref (e 0), .int (nI nl), .ref (e 1), .int (nI n), .ref (e 2), .int (nI m), .int (nI md), .ref (e 3), .ref (e 4), .int (zb fu), .ref (e 5)])), (e 0, .inl (X.cI, 240, .inl (M 0))), (e 1, .inl (X.cI, 40, .inl (M 1))), (e 2, .inl (X.cI, 4200, .inl (M 2))), (e 3, .inl (X.cI, 4207, .inl (M 3))), (e 4, .inl (X.cI, 2048, .inl (M 4))), (e 5, .inl (X.cI, 600, .inl (M 5)))]) [6, 0, 1, 2, 3, 4, 5] (by decide) rfl ?_
        refine z_if_eq_b (q := 21) (tgt := 23) C dX6_told_18 (by decide) rfl (fun c18 => ?_) (fun c18 => ?_)
        · skip
          refine z_iload_n (q := 24) C 1 rfl rfl dX6_told_23 rfl ?_
          refine z_iconst (q := 25) C k_iconst_3 dX6_told_24 rfl ?_
          refine z_icmp_ge_n (q := 28) (tgt := 56) C (by omega) (by omega) dX6_told_25 (by decide) rfl (fun c25 => ?_) (fun c25 => ?_)
          · exact absurd c25 (by decide)
          · skip
            refine z_iload_n (q := 29) C 1 rfl rfl dX6_told_28 rfl ?_
            refine z_if_ne_n (q := 32) (tgt := 39) C (by omega) dX6_told_29 (by decide) rfl (fun c29 => ?_) (fun c29 => ?_)
            · skip
              refine z_iload_n (q := 40) C 1 rfl rfl dX6_told_39 rfl ?_
              refine z_iconst (q := 41) C k_iconst_1 dX6_told_40 rfl ?_
              refine z_icmp_ne_n (q := 44) (tgt := 51) C (by omega) (by omega) dX6_told_41 (by decide) rfl (fun c41 => ?_) (fun c41 => ?_)
              · skip
                refine z_aload_n (q := 52) C 0 rfl rfl dX6_told_51 rfl ?_
                refine z_get (q := 55) (v := .int (nI nl)) C hiX6 0 6 rfl rfl (by decide) hf39 rfl dX6_told_52 rfl ?_
                refine z_iret C E (by omega) (by omega) dX6_told_55 ?_
                exact Or.inr ⟨by decide, by first | rfl | (rw [← hC.1]; rfl), rfl⟩
              · exact absurd c41 (by decide)
            · exact absurd c29 (by decide)
        · skip
          exact absurd c18 (by decide)
      · skip
        refine z_iconst (q := 15) C k_iconst_0 dX6_told_14 rfl ?_
        refine z_callV (q := 18) (n := 1) (As := [.int (nI 0)]) (rest := []) (wr := [(e 0, .inl (X.cI, 240, .inl (M 0))), (e 1, .inl (X.cI, 40, .inl (M 1))), (e 2, .inl (X.cI, 4200, .inl (M 2))), (e 3, .inl (X.cI, 4207, .inl (M 3))), (e 4, .inl (X.cI, 2048, .inl (M 4))), (e 5, .inl (X.cI, 600, .inl (M 5)))]) C (c_X6_refuses X.l X.D X.2.1 hm e M cd mb ak cnt k nl n m md fu 0 (by omega)) gX6_told_X6_refuses rfl rfl rfl (by decide +kernel) (by decide) ⟨by first | decide | omega, by first | decide | omega⟩ 0 6 rfl rfl [0] [1, 2, 3, 4, 5, 6] rfl rfl (by decide) (by decide) (by decide) rfl rfl (Nat.le_of_ble_eq_true rfl) dX6_told_15 rfl (fun v w1 hp => ?_)
        obtain ⟨rfl, rfl⟩ := hp
        show zW X 5 [(e 0, .inl (X.cI, 240, .inl (M 0))), (e 1, .inl (X.cI, 40, .inl (M 1))), (e 2, .inl (X.cI, 4200, .inl (M 2))), (e 3, .inl (X.cI, 4207, .inl (M 3))), (e 4, .inl (X.cI, 2048, .inl (M 4))), (e 5, .inl (X.cI, 600, .inl (M 5))), (hm, .inr (6, [.int (nI 0), .int (zb mb), .int (zb ak), .int (nI cnt), .int (nI k), .ref (e 0), .int (nI nl), .ref (e 1), .int (nI n), .ref (e 2), .int (nI m), .int (nI md), .ref (e 3), .ref (e 4), .int (zb fu), .ref (e 5)]))] _ _ 18 _ [.int (zb (decide (0 < 0)))]
        refine z_ws (ws' := [(hm, .inr (6, [.int (nI 0), .int (zb mb), .int (zb ak), .int (nI cnt), .int (nI k), .ref (e 0), .int (nI nl), .ref (e 1), .int (nI n), .ref (e 2), .int (nI m), .int (nI md), .ref (e 3), .ref (e 4), .int (zb fu), .ref (e 5)])), (e 0, .inl (X.cI, 240, .inl (M 0))), (e 1, .inl (X.cI, 40, .inl (M 1))), (e 2, .inl (X.cI, 4200, .inl (M 2))), (e 3, .inl (X.cI, 4207, .inl (M 3))), (e 4, .inl (X.cI, 2048, .inl (M 4))), (e 5, .inl (X.cI, 600, .inl (M 5)))]) [6, 0, 1, 2, 3, 4, 5] (by decide) rfl ?_
        refine z_if_eq_b (q := 21) (tgt := 23) C dX6_told_18 (by decide) rfl (fun c18 => ?_) (fun c18 => ?_)
        · skip
          refine z_iload_n (q := 24) C 1 rfl rfl dX6_told_23 rfl ?_
          refine z_iconst (q := 25) C k_iconst_3 dX6_told_24 rfl ?_
          refine z_icmp_ge_n (q := 28) (tgt := 56) C (by omega) (by omega) dX6_told_25 (by decide) rfl (fun c25 => ?_) (fun c25 => ?_)
          · skip
            refine z_iconst (q := 57) C k_iconst_0 dX6_told_56 rfl ?_
            refine z_istore_n (q := 58) (lv' := [(2, .int (nI 0)), (0, .ref hm), (1, .int (nI 3))]) C rfl dX6_told_57 rfl (by decide) rfl ?_
            refine z_iconst (q := 59) C k_iconst_0 dX6_told_58 rfl ?_
            refine z_istore_n (q := 60) (lv' := [(3, .int (nI 0)), (2, .int (nI 0)), (0, .ref hm), (1, .int (nI 3))]) C rfl dX6_told_59 rfl (by decide) rfl ?_
            refine z_lv [2, 3, 1, 0] rfl ?_
            exact l_X6_told3 hm e M mb ak cnt k nl n m md fu L hC hk hnl hmm C E (n + 1) 0 (by omega) (by omega)
          · exact absurd c25 (by decide)
        · skip
          exact absurd c18 (by decide)
      · skip
        refine z_iconst (q := 15) C k_iconst_0 dX6_told_14 rfl ?_
        refine z_callV (q := 18) (n := 1) (As := [.int (nI 0)]) (rest := []) (wr := [(e 0, .inl (X.cI, 240, .inl (M 0))), (e 1, .inl (X.cI, 40, .inl (M 1))), (e 2, .inl (X.cI, 4200, .inl (M 2))), (e 3, .inl (X.cI, 4207, .inl (M 3))), (e 4, .inl (X.cI, 2048, .inl (M 4))), (e 5, .inl (X.cI, 600, .inl (M 5)))]) C (c_X6_refuses X.l X.D X.2.1 hm e M cd mb ak cnt k nl n m md fu 0 (by omega)) gX6_told_X6_refuses rfl rfl rfl (by decide +kernel) (by decide) ⟨by first | decide | omega, by first | decide | omega⟩ 0 6 rfl rfl [0] [1, 2, 3, 4, 5, 6] rfl rfl (by decide) (by decide) (by decide) rfl rfl (Nat.le_of_ble_eq_true rfl) dX6_told_15 rfl (fun v w1 hp => ?_)
        obtain ⟨rfl, rfl⟩ := hp
        show zW X 5 [(e 0, .inl (X.cI, 240, .inl (M 0))), (e 1, .inl (X.cI, 40, .inl (M 1))), (e 2, .inl (X.cI, 4200, .inl (M 2))), (e 3, .inl (X.cI, 4207, .inl (M 3))), (e 4, .inl (X.cI, 2048, .inl (M 4))), (e 5, .inl (X.cI, 600, .inl (M 5))), (hm, .inr (6, [.int (nI 0), .int (zb mb), .int (zb ak), .int (nI cnt), .int (nI k), .ref (e 0), .int (nI nl), .ref (e 1), .int (nI n), .ref (e 2), .int (nI m), .int (nI md), .ref (e 3), .ref (e 4), .int (zb fu), .ref (e 5)]))] _ _ 18 _ [.int (zb (decide (0 < 0)))]
        refine z_ws (ws' := [(hm, .inr (6, [.int (nI 0), .int (zb mb), .int (zb ak), .int (nI cnt), .int (nI k), .ref (e 0), .int (nI nl), .ref (e 1), .int (nI n), .ref (e 2), .int (nI m), .int (nI md), .ref (e 3), .ref (e 4), .int (zb fu), .ref (e 5)])), (e 0, .inl (X.cI, 240, .inl (M 0))), (e 1, .inl (X.cI, 40, .inl (M 1))), (e 2, .inl (X.cI, 4200, .inl (M 2))), (e 3, .inl (X.cI, 4207, .inl (M 3))), (e 4, .inl (X.cI, 2048, .inl (M 4))), (e 5, .inl (X.cI, 600, .inl (M 5)))]) [6, 0, 1, 2, 3, 4, 5] (by decide) rfl ?_
        refine z_if_eq_b (q := 21) (tgt := 23) C dX6_told_18 (by decide) rfl (fun c18 => ?_) (fun c18 => ?_)
        · skip
          refine z_iload_n (q := 24) C 1 rfl rfl dX6_told_23 rfl ?_
          refine z_iconst (q := 25) C k_iconst_3 dX6_told_24 rfl ?_
          refine z_icmp_ge_n (q := 28) (tgt := 56) C (by omega) (by omega) dX6_told_25 (by decide) rfl (fun c25 => ?_) (fun c25 => ?_)
          · skip
            refine z_iconst (q := 57) C k_iconst_0 dX6_told_56 rfl ?_
            refine z_istore_n (q := 58) (lv' := [(2, .int (nI 0)), (0, .ref hm), (1, .int (nI 4))]) C rfl dX6_told_57 rfl (by decide) rfl ?_
            refine z_iconst (q := 59) C k_iconst_0 dX6_told_58 rfl ?_
            refine z_istore_n (q := 60) (lv' := [(3, .int (nI 0)), (2, .int (nI 0)), (0, .ref hm), (1, .int (nI 4))]) C rfl dX6_told_59 rfl (by decide) rfl ?_
            refine z_lv [2, 3, 1, 0] rfl ?_
            exact l_X6_told4 hm e M mb ak cnt k nl n m md fu L hC hk hnl hmm C E (n + 1) 0 (by omega) (by omega)
          · exact absurd c25 (by decide)
        · skip
          exact absurd c18 (by decide)
    · skip
      refine z_iconst (q := 11) C k_iconst_1 dX6_told_10 rfl ?_
      refine z_goto (tgt := 15) C dX6_told_11 (by decide) ?_
      refine z_callV (q := 18) (n := 1) (As := [.int (nI 1)]) (rest := []) (wr := [(e 0, .inl (X.cI, 240, .inl (M 0))), (e 1, .inl (X.cI, 40, .inl (M 1))), (e 2, .inl (X.cI, 4200, .inl (M 2))), (e 3, .inl (X.cI, 4207, .inl (M 3))), (e 4, .inl (X.cI, 2048, .inl (M 4))), (e 5, .inl (X.cI, 600, .inl (M 5)))]) C (c_X6_refuses X.l X.D X.2.1 hm e M cd mb ak cnt k nl n m md fu 1 (by omega)) gX6_told_X6_refuses rfl rfl rfl (by decide +kernel) (by decide) ⟨by first | decide | omega, by first | decide | omega⟩ 0 6 rfl rfl [0] [1, 2, 3, 4, 5, 6] rfl rfl (by decide) (by decide) (by decide) rfl rfl (Nat.le_of_ble_eq_true rfl) dX6_told_15 rfl (fun v w1 hp => ?_)
      obtain ⟨rfl, rfl⟩ := hp
      show zW X 5 [(e 0, .inl (X.cI, 240, .inl (M 0))), (e 1, .inl (X.cI, 40, .inl (M 1))), (e 2, .inl (X.cI, 4200, .inl (M 2))), (e 3, .inl (X.cI, 4207, .inl (M 3))), (e 4, .inl (X.cI, 2048, .inl (M 4))), (e 5, .inl (X.cI, 600, .inl (M 5))), (hm, .inr (6, [.int (nI 1), .int (zb mb), .int (zb ak), .int (nI cnt), .int (nI k), .ref (e 0), .int (nI nl), .ref (e 1), .int (nI n), .ref (e 2), .int (nI m), .int (nI md), .ref (e 3), .ref (e 4), .int (zb fu), .ref (e 5)]))] _ _ 18 _ [.int (zb (decide (0 < 1)))]
      refine z_ws (ws' := [(hm, .inr (6, [.int (nI 1), .int (zb mb), .int (zb ak), .int (nI cnt), .int (nI k), .ref (e 0), .int (nI nl), .ref (e 1), .int (nI n), .ref (e 2), .int (nI m), .int (nI md), .ref (e 3), .ref (e 4), .int (zb fu), .ref (e 5)])), (e 0, .inl (X.cI, 240, .inl (M 0))), (e 1, .inl (X.cI, 40, .inl (M 1))), (e 2, .inl (X.cI, 4200, .inl (M 2))), (e 3, .inl (X.cI, 4207, .inl (M 3))), (e 4, .inl (X.cI, 2048, .inl (M 4))), (e 5, .inl (X.cI, 600, .inl (M 5)))]) [6, 0, 1, 2, 3, 4, 5] (by decide) rfl ?_
      refine z_if_eq_b (q := 21) (tgt := 23) C dX6_told_18 (by decide) rfl (fun c18 => ?_) (fun c18 => ?_)
      · skip
        exact absurd c18 (by decide)
      · skip
        refine z_iconst (q := 22) C k_iconst_0 dX6_told_21 rfl ?_
        refine z_iret C E (by omega) (by omega) dX6_told_22 ?_
        exact Or.inl ⟨if_neg (by omega), rfl, rfl⟩

def ad6 (a b c d e f : Nat) : Nat → Nat := fun k => match k with
  | 0 => a
  | 1 => b
  | 2 => c
  | 3 => d
  | 4 => e
  | _ => f
set_option maxHeartbeats 4000000 in
set_option maxRecDepth 100000 in
theorem c_X6_init (l : Launch) (D : va_G) (g : ClassId × ClassId × ClassId) (h : Nat) (mem : Int32) : zM l yX6_init wsX6_init ({ frames := 1, cells := 6, slots := 11335, locals := 12 } : Room) D g [.ref h, .int mem] [(h, .inr (6, [.int 0, .int 0, .int 0, .int 0, .int 0, .null, .int 0, .null, .int 0, .null, .int 0, .int 0, .null, .null, .int 0, .null]))] 6 11335 (fun v w1 => ∃ e : Nat → Nat, v = none ∧ w1 = [(h, .inr (6, [.int (nI 0), .int (zb (mbOf mem)), .int (zb false), .int (nI 9), .int (nI 0), .ref (e 0), .int (nI 0), .ref (e 1), .int (nI 0), .ref (e 2), .int (nI 0), .int (nI 0), .ref (e 3), .ref (e 4), .int (zb false), .ref (e 5)])), (e 0, .inl (g.1, 240, .inl (fun _ => 0))), (e 1, .inl (g.1, 40, .inl (fun _ => 0))), (e 2, .inl (g.1, 4200, .inl (fun _ => 0))), (e 3, .inl (g.1, 4207, .inl (fun _ => 0))), (e 4, .inl (g.1, 2048, .inl (fun _ => 0))), (e 5, .inl (g.1, 600, .inl (fun _ => 0)))]) := by
  refine z_met (cc := cX6_init) (maxL := 2) (ret := none) (lv := [(0, .ref h), (1, .int mem)]) (by decide) rfl (Nat.le_of_ble_eq_true rfl) rfl ?_
  intro X hXD hXg hXl hnm C E
  subst hXD hXg hXl
  have C : zC X cX6_init 2 RX6 wsX6_init ({ frames := 1, cells := 6, slots := 11335, locals := 12 } : Room) := C
  have hiX6 : ∀ w ∈ u_ws RX6 TX6 16, w ∈ wsX6_init := by decide +kernel
  have hf7 : Cond.fieldLink RX6 7 "RdfsRulesModel" "counted" "I" ∈ wsX6_init := by decide +kernel
  have hf13 : Cond.fieldLink RX6 13 "RdfsRulesModel" "facts" "[I" ∈ wsX6_init := by decide +kernel
  have hf17 : Cond.fieldLink RX6 17 "RdfsRulesModel" "types" "[I" ∈ wsX6_init := by decide +kernel
  have hf20 : Cond.fieldLink RX6 20 "RdfsRulesModel" "closure" "[I" ∈ wsX6_init := by decide +kernel
  have hf23 : Cond.fieldLink RX6 23 "RdfsRulesModel" "fresh" "[I" ∈ wsX6_init := by decide +kernel
  have hf26 : Cond.fieldLink RX6 26 "RdfsRulesModel" "places" "[I" ∈ wsX6_init := by decide +kernel
  have hf29 : Cond.fieldLink RX6 29 "RdfsRulesModel" "rests" "[I" ∈ wsX6_init := by decide +kernel
  have hf32 : Cond.fieldLink RX6 32 "RdfsRulesModel" "memberships" "Z" ∈ wsX6_init := by decide +kernel
  have harrI : Cond.arrayClass .int ∈ wsX6_init := by decide +kernel
  have hoi : Cond.methodLink RX6 1 objectInit ∈ wsX6_init := by decide +kernel
  have hom : Cond.instanceMethod objectInit ∈ wsX6_init := by decide +kernel
  have hoc : Cond.code objectInit ⟨#[0xb1]⟩ 1 none ∈ wsX6_init := by decide +kernel
  refine z_aload_n (q := 1) C 0 rfl rfl dX6_init_0 rfl ?_
  refine z_objInit (q := 4) C hoi hom hoc (by decide) (Nat.le_of_ble_eq_true rfl) dX6_init_1 rfl ?_
  refine z_aload_n (q := 5) C 0 rfl rfl dX6_init_4 rfl ?_
  refine z_bipush (q := 7) C k_bipush_9 dX6_init_5 rfl ?_
  refine z_put (q := 10) (ws' := [(h, .inr (6, [.int 0, .int 0, .int 0, .int (nI 9), .int 0, .null, .int 0, .null, .int 0, .null, .int 0, .int 0, .null, .null, .int 0, .null]))]) C hiX6 tyX6_ok nmX6 0 3 rfl rfl (by decide) hf7 rfl rfl rfl (Nat.le_of_ble_eq_true rfl) dX6_init_7 rfl rfl ?_
  refine z_aload_n (q := 11) C 0 rfl rfl dX6_init_10 rfl ?_
  refine z_sipush (q := 14) C k_sipush_240 dX6_init_11 rfl ?_
  refine z_newI (q := 16) (m1 := 1) (m2 := 240) C harrI (by decide) (by decide) (by decide) dX6_init_14 rfl rfl rfl (fun q14 => ?_)
  show zW X 2 [(h, .inr (6, [.int 0, .int 0, .int 0, .int (nI 9), .int 0, .null, .int 0, .null, .int 0, .null, .int 0, .int 0, .null, .null, .int 0, .null])), (q14, .inl (X.cI, 240, .inl (fun _ => 0)))] 1 240 16 _ [.ref q14, .ref h]
  refine z_putF (q := 19) (ws' := [(h, .inr (6, [.int 0, .int 0, .int 0, .int (nI 9), .int 0, .ref q14, .int 0, .null, .int 0, .null, .int 0, .int 0, .null, .null, .int 0, .null])), (q14, .inl (X.cI, 240, .inl (fun _ => 0)))]) C hnm hiX6 tyX6_ok nmX6 0 5 rfl rfl (by decide) hf13 rfl rfl rfl rfl (Nat.le_of_ble_eq_true rfl) dX6_init_16 rfl rfl ?_
  refine z_aload_n (q := 20) C 0 rfl rfl dX6_init_19 rfl ?_
  refine z_bipush (q := 22) C k_bipush_40 dX6_init_20 rfl ?_
  refine z_newI (q := 24) (m1 := 2) (m2 := 280) C harrI (by decide) (by decide) (by decide) dX6_init_22 rfl rfl rfl (fun q22 => ?_)
  show zW X 2 [(h, .inr (6, [.int 0, .int 0, .int 0, .int (nI 9), .int 0, .ref q14, .int 0, .null, .int 0, .null, .int 0, .int 0, .null, .null, .int 0, .null])), (q14, .inl (X.cI, 240, .inl (fun _ => 0))), (q22, .inl (X.cI, 40, .inl (fun _ => 0)))] 2 280 24 _ [.ref q22, .ref h]
  refine z_putF (q := 27) (ws' := [(h, .inr (6, [.int 0, .int 0, .int 0, .int (nI 9), .int 0, .ref q14, .int 0, .ref q22, .int 0, .null, .int 0, .int 0, .null, .null, .int 0, .null])), (q14, .inl (X.cI, 240, .inl (fun _ => 0))), (q22, .inl (X.cI, 40, .inl (fun _ => 0)))]) C hnm hiX6 tyX6_ok nmX6 0 7 rfl rfl (by decide) hf17 rfl rfl rfl rfl (Nat.le_of_ble_eq_true rfl) dX6_init_24 rfl rfl ?_
  refine z_aload_n (q := 28) C 0 rfl rfl dX6_init_27 rfl ?_
  refine z_sipush (q := 31) C k_sipush_4200 dX6_init_28 rfl ?_
  refine z_newI (q := 33) (m1 := 3) (m2 := 4480) C harrI (by decide) (by decide) (by decide) dX6_init_31 rfl rfl rfl (fun q31 => ?_)
  show zW X 2 [(h, .inr (6, [.int 0, .int 0, .int 0, .int (nI 9), .int 0, .ref q14, .int 0, .ref q22, .int 0, .null, .int 0, .int 0, .null, .null, .int 0, .null])), (q14, .inl (X.cI, 240, .inl (fun _ => 0))), (q22, .inl (X.cI, 40, .inl (fun _ => 0))), (q31, .inl (X.cI, 4200, .inl (fun _ => 0)))] 3 4480 33 _ [.ref q31, .ref h]
  refine z_putF (q := 36) (ws' := [(h, .inr (6, [.int 0, .int 0, .int 0, .int (nI 9), .int 0, .ref q14, .int 0, .ref q22, .int 0, .ref q31, .int 0, .int 0, .null, .null, .int 0, .null])), (q14, .inl (X.cI, 240, .inl (fun _ => 0))), (q22, .inl (X.cI, 40, .inl (fun _ => 0))), (q31, .inl (X.cI, 4200, .inl (fun _ => 0)))]) C hnm hiX6 tyX6_ok nmX6 0 9 rfl rfl (by decide) hf20 rfl rfl rfl rfl (Nat.le_of_ble_eq_true rfl) dX6_init_33 rfl rfl ?_
  refine z_aload_n (q := 37) C 0 rfl rfl dX6_init_36 rfl ?_
  refine z_sipush (q := 40) C k_sipush_4207 dX6_init_37 rfl ?_
  refine z_newI (q := 42) (m1 := 4) (m2 := 8687) C harrI (by decide) (by decide) (by decide) dX6_init_40 rfl rfl rfl (fun q40 => ?_)
  show zW X 2 [(h, .inr (6, [.int 0, .int 0, .int 0, .int (nI 9), .int 0, .ref q14, .int 0, .ref q22, .int 0, .ref q31, .int 0, .int 0, .null, .null, .int 0, .null])), (q14, .inl (X.cI, 240, .inl (fun _ => 0))), (q22, .inl (X.cI, 40, .inl (fun _ => 0))), (q31, .inl (X.cI, 4200, .inl (fun _ => 0))), (q40, .inl (X.cI, 4207, .inl (fun _ => 0)))] 4 8687 42 _ [.ref q40, .ref h]
  refine z_putF (q := 45) (ws' := [(h, .inr (6, [.int 0, .int 0, .int 0, .int (nI 9), .int 0, .ref q14, .int 0, .ref q22, .int 0, .ref q31, .int 0, .int 0, .ref q40, .null, .int 0, .null])), (q14, .inl (X.cI, 240, .inl (fun _ => 0))), (q22, .inl (X.cI, 40, .inl (fun _ => 0))), (q31, .inl (X.cI, 4200, .inl (fun _ => 0))), (q40, .inl (X.cI, 4207, .inl (fun _ => 0)))]) C hnm hiX6 tyX6_ok nmX6 0 12 rfl rfl (by decide) hf23 rfl rfl rfl rfl (Nat.le_of_ble_eq_true rfl) dX6_init_42 rfl rfl ?_
  refine z_aload_n (q := 46) C 0 rfl rfl dX6_init_45 rfl ?_
  refine z_sipush (q := 49) C k_sipush_2048 dX6_init_46 rfl ?_
  refine z_newI (q := 51) (m1 := 5) (m2 := 10735) C harrI (by decide) (by decide) (by decide) dX6_init_49 rfl rfl rfl (fun q49 => ?_)
  show zW X 2 [(h, .inr (6, [.int 0, .int 0, .int 0, .int (nI 9), .int 0, .ref q14, .int 0, .ref q22, .int 0, .ref q31, .int 0, .int 0, .ref q40, .null, .int 0, .null])), (q14, .inl (X.cI, 240, .inl (fun _ => 0))), (q22, .inl (X.cI, 40, .inl (fun _ => 0))), (q31, .inl (X.cI, 4200, .inl (fun _ => 0))), (q40, .inl (X.cI, 4207, .inl (fun _ => 0))), (q49, .inl (X.cI, 2048, .inl (fun _ => 0)))] 5 10735 51 _ [.ref q49, .ref h]
  refine z_putF (q := 54) (ws' := [(h, .inr (6, [.int 0, .int 0, .int 0, .int (nI 9), .int 0, .ref q14, .int 0, .ref q22, .int 0, .ref q31, .int 0, .int 0, .ref q40, .ref q49, .int 0, .null])), (q14, .inl (X.cI, 240, .inl (fun _ => 0))), (q22, .inl (X.cI, 40, .inl (fun _ => 0))), (q31, .inl (X.cI, 4200, .inl (fun _ => 0))), (q40, .inl (X.cI, 4207, .inl (fun _ => 0))), (q49, .inl (X.cI, 2048, .inl (fun _ => 0)))]) C hnm hiX6 tyX6_ok nmX6 0 13 rfl rfl (by decide) hf26 rfl rfl rfl rfl (Nat.le_of_ble_eq_true rfl) dX6_init_51 rfl rfl ?_
  refine z_aload_n (q := 55) C 0 rfl rfl dX6_init_54 rfl ?_
  refine z_sipush (q := 58) C k_sipush_600 dX6_init_55 rfl ?_
  refine z_newI (q := 60) (m1 := 6) (m2 := 11335) C harrI (by decide) (by decide) (by decide) dX6_init_58 rfl rfl rfl (fun q58 => ?_)
  show zW X 2 [(h, .inr (6, [.int 0, .int 0, .int 0, .int (nI 9), .int 0, .ref q14, .int 0, .ref q22, .int 0, .ref q31, .int 0, .int 0, .ref q40, .ref q49, .int 0, .null])), (q14, .inl (X.cI, 240, .inl (fun _ => 0))), (q22, .inl (X.cI, 40, .inl (fun _ => 0))), (q31, .inl (X.cI, 4200, .inl (fun _ => 0))), (q40, .inl (X.cI, 4207, .inl (fun _ => 0))), (q49, .inl (X.cI, 2048, .inl (fun _ => 0))), (q58, .inl (X.cI, 600, .inl (fun _ => 0)))] 6 11335 60 _ [.ref q58, .ref h]
  refine z_putF (q := 63) (ws' := [(h, .inr (6, [.int 0, .int 0, .int 0, .int (nI 9), .int 0, .ref q14, .int 0, .ref q22, .int 0, .ref q31, .int 0, .int 0, .ref q40, .ref q49, .int 0, .ref q58])), (q14, .inl (X.cI, 240, .inl (fun _ => 0))), (q22, .inl (X.cI, 40, .inl (fun _ => 0))), (q31, .inl (X.cI, 4200, .inl (fun _ => 0))), (q40, .inl (X.cI, 4207, .inl (fun _ => 0))), (q49, .inl (X.cI, 2048, .inl (fun _ => 0))), (q58, .inl (X.cI, 600, .inl (fun _ => 0)))]) C hnm hiX6 tyX6_ok nmX6 0 15 rfl rfl (by decide) hf29 rfl rfl rfl rfl (Nat.le_of_ble_eq_true rfl) dX6_init_60 rfl rfl ?_
  refine z_aload_n (q := 64) C 0 rfl rfl dX6_init_63 rfl ?_
  refine z_iload_n (q := 65) C 1 rfl rfl dX6_init_64 rfl ?_
  refine z_if_eq_z (q := 68) (tgt := 72) C dX6_init_65 (by decide) rfl (fun c65 => ?_) (fun c65 => ?_)
  · skip
    refine z_iconst (q := 73) C k_iconst_0 dX6_init_72 rfl ?_
    refine z_eqi (y := zb (mbOf mem)) (zb_is0 (decide_eq_false (fun z9 => z9 c65))) ?_
    refine z_putF (q := 76) (ws' := [(h, .inr (6, [.int 0, .int (zb (mbOf mem)), .int 0, .int (nI 9), .int 0, .ref q14, .int 0, .ref q22, .int 0, .ref q31, .int 0, .int 0, .ref q40, .ref q49, .int 0, .ref q58])), (q14, .inl (X.cI, 240, .inl (fun _ => 0))), (q22, .inl (X.cI, 40, .inl (fun _ => 0))), (q31, .inl (X.cI, 4200, .inl (fun _ => 0))), (q40, .inl (X.cI, 4207, .inl (fun _ => 0))), (q49, .inl (X.cI, 2048, .inl (fun _ => 0))), (q58, .inl (X.cI, 600, .inl (fun _ => 0)))]) C hnm hiX6 tyX6_ok nmX6 0 1 rfl rfl (by decide) hf32 rfl rfl (zb_nar _) (zb_fit _) (Nat.le_of_ble_eq_true rfl) dX6_init_73 rfl rfl ?_
    refine z_vret C E (by omega) (by omega) dX6_init_76 ?_
    exact ⟨ad6 q14 q22 q31 q40 q49 q58, rfl, rfl⟩
  · skip
    refine z_iconst (q := 69) C k_iconst_1 dX6_init_68 rfl ?_
    refine z_goto (tgt := 73) C dX6_init_69 (by decide) ?_
    refine z_eqi (y := zb (mbOf mem)) (zb_is1 (decide_eq_true c65)) ?_
    refine z_putF (q := 76) (ws' := [(h, .inr (6, [.int 0, .int (zb (mbOf mem)), .int 0, .int (nI 9), .int 0, .ref q14, .int 0, .ref q22, .int 0, .ref q31, .int 0, .int 0, .ref q40, .ref q49, .int 0, .ref q58])), (q14, .inl (X.cI, 240, .inl (fun _ => 0))), (q22, .inl (X.cI, 40, .inl (fun _ => 0))), (q31, .inl (X.cI, 4200, .inl (fun _ => 0))), (q40, .inl (X.cI, 4207, .inl (fun _ => 0))), (q49, .inl (X.cI, 2048, .inl (fun _ => 0))), (q58, .inl (X.cI, 600, .inl (fun _ => 0)))]) C hnm hiX6 tyX6_ok nmX6 0 1 rfl rfl (by decide) hf32 rfl rfl (zb_nar _) (zb_fit _) (Nat.le_of_ble_eq_true rfl) dX6_init_73 rfl rfl ?_
    refine z_vret C E (by omega) (by omega) dX6_init_76 ?_
    exact ⟨ad6 q14 q22 q31 q40 q49 q58, rfl, rfl⟩
