def cloRep (f : Nat → Int32) (n : Nat) (L : List Row) : Prop := L.length = n ∧ n ≤ 600 ∧ ∀ i j, i < n → j < 7 → f (7 * i + j) = L.getD i r0 j
theorem mRep.row {fr P : Nat → Int32} {n : Nat} {ov : Bool} {S : RSt} (h : mRep fr P n ov S) {L : List Row} (st : stp (L, false) S) {i j : Nat} (hi : i < L.length) (hj : j < 7) : fr (7 * i + j) = L.getD i r0 j := by
  have hl := st.len
  rw [h.2.2.2.2.1 i j (by rw [← h.1]; exact Nat.lt_of_lt_of_le hi hl) hj, st.get hi]
theorem firstP_ge {r : Nat} (h : ¬ firstP r = (-1)) : 0 ≤ (firstP r).toInt := by
  rcases firstP_pairs h with rfl | rfl | rfl | rfl | rfl | rfl <;> decide

set_option maxHeartbeats 4000000 in
set_option maxRecDepth 100000 in
theorem l_X6_run_c {X : zX} (hm : Nat) (e : Nat → Nat) (M : Nat → Nat → Int32) (mb ak : Bool) (cnt k nl n m : Nat) (hnl : nl ≤ 40) (hcn : cnt ≤ 9) (GL : List Row) (hG : mgRep (M 0) k GL) (f3 f4 : Nat → Int32) (md : Nat) (fu : Bool) (rv : Int32) (hR : mRep f3 f4 md fu (runS nl (M 1) (axSz mb ak cnt) GL).1) (hv : rv = (runS nl (M 1) (axSz mb ak cnt) GL).2) (hcd : cdRun nl (M 1) (axSz mb ak cnt) GL = 0) (C : zC X cX6_run 7 RX6 wsX6_run ({ frames := 3, cells := 0, slots := 0, locals := 82 } : Room)) (E : zE X (some .int) 0 0 (fun v w1 => (cdRun nl (M 1) (axSz mb ak cnt) GL = 1 ∧ ∃ (f3 f4 : Nat → Int32) (md1 : Nat) (fu1 : Bool), v = some (.int (nI 0)) ∧ w1 = [(hm, .inr (6, [.int (nI 1), .int (zb mb), .int (zb ak), .int (nI cnt), .int (nI k), .ref (e 0), .int (nI nl), .ref (e 1), .int (nI n), .ref (e 2), .int (nI m), .int (nI md1), .ref (e 3), .ref (e 4), .int (zb fu1), .ref (e 5)])), (e 0, .inl (X.cI, 240, .inl (M 0))), (e 1, .inl (X.cI, 40, .inl (M 1))), (e 2, .inl (X.cI, 4200, .inl (M 2))), (e 3, .inl (X.cI, 4207, .inl f3)), (e 4, .inl (X.cI, 2048, .inl f4)), (e 5, .inl (X.cI, 600, .inl (M 5)))]) ∨ (cdRun nl (M 1) (axSz mb ak cnt) GL = 0 ∧ ∃ (f2 f3 f4 : Nat → Int32) (n1 : Nat) (fu1 : Bool), cloRep f2 n1 (runS nl (M 1) (axSz mb ak cnt) GL).1.1 ∧ v = some (.int (runS nl (M 1) (axSz mb ak cnt) GL).2) ∧ w1 = [(hm, .inr (6, [.int (nI 0), .int (zb mb), .int (zb ak), .int (nI cnt), .int (nI k), .ref (e 0), .int (nI nl), .ref (e 1), .int (nI n1), .ref (e 2), .int (nI (memN mb ak cnt)), .int (nI n1), .ref (e 3), .ref (e 4), .int (zb fu1), .ref (e 5)])), (e 0, .inl (X.cI, 240, .inl (M 0))), (e 1, .inl (X.cI, 40, .inl (M 1))), (e 2, .inl (X.cI, 4200, .inl f2)), (e 3, .inl (X.cI, 4207, .inl f3)), (e 4, .inl (X.cI, 2048, .inl f4)), (e 5, .inl (X.cI, 600, .inl (M 5)))]))) : ∀ (z : Nat) (q : Nat) (f2 : Nat → Int32), q ≤ 7 * md → 7 * md < q + z → (∀ r, r < q → f2 r = f3 r) → zW X 7 [(hm, .inr (6, [.int (nI 0), .int (zb mb), .int (zb ak), .int (nI cnt), .int (nI k), .ref (e 0), .int (nI nl), .ref (e 1), .int (nI md), .ref (e 2), .int (nI (memN mb ak cnt)), .int (nI md), .ref (e 3), .ref (e 4), .int (zb fu), .ref (e 5)])), (e 0, .inl (X.cI, 240, .inl (M 0))), (e 1, .inl (X.cI, 40, .inl (M 1))), (e 2, .inl (X.cI, 4200, .inl f2)), (e 3, .inl (X.cI, 4207, .inl f3)), (e 4, .inl (X.cI, 2048, .inl f4)), (e 5, .inl (X.cI, 600, .inl (M 5)))] 0 0 349 [(0, .ref hm), (1, .int rv), (3, .int (nI q))] [] := by
  have hiX6 : ∀ w ∈ u_ws RX6 TX6 16, w ∈ wsX6_run := by decide +kernel
  have hf20 : Cond.fieldLink RX6 20 "RdfsRulesModel" "closure" "[I" ∈ wsX6_run := by decide +kernel
  have hf23 : Cond.fieldLink RX6 23 "RdfsRulesModel" "fresh" "[I" ∈ wsX6_run := by decide +kernel
  have hf109 : Cond.fieldLink RX6 109 "RdfsRulesModel" "rows" "I" ∈ wsX6_run := by decide +kernel
  intro z
  induction z with
  | zero =>
    intro q f2 hq hz hf2
    exfalso
    omega
  | succ z ih =>
    intro q f2 hq hz hf2
    have hn6 := hR.2.1
    refine z_iload_n (q := 350) C 2 rfl rfl dX6_run_349 rfl ?_
    refine z_bipush (q := 352) C k_bipush_7 dX6_run_350 rfl ?_
    refine z_aload_n (q := 353) C 0 rfl rfl dX6_run_352 rfl ?_
    refine z_get (q := 356) (v := .int (nI md)) C hiX6 0 8 rfl rfl (by decide) hf109 rfl dX6_run_353 rfl ?_
    refine z_imul (q := 357) C dX6_run_356 rfl ?_
    refine z_eqi (y := nI (7 * md)) (pk_mul 7 md) ?_
    refine z_icmp_ge_n (q := 360) (tgt := 378) C (by omega) (by omega) dX6_run_357 (by decide) rfl (fun c357 => ?_) (fun c357 => ?_)
    · skip
      refine z_iload_n (q := 379) C 1 rfl rfl dX6_run_378 rfl ?_
      refine z_iret C E (by omega) (by omega) dX6_run_379 ?_
      exact Or.inr ⟨hcd, f2, f3, f4, md, fu, ⟨hR.1, hR.2.1, fun i j hi hj => by rw [hf2 _ (by omega)]; exact hR.2.2.2.2.1 i j hi hj⟩, by rw [hv], rfl⟩
    · skip
      refine z_aload_n (q := 361) C 0 rfl rfl dX6_run_360 rfl ?_
      refine z_get (q := 364) (v := .ref (e 2)) C hiX6 0 9 rfl rfl (by decide) hf20 rfl dX6_run_361 rfl ?_
      refine z_iload_n (q := 365) C 2 rfl rfl dX6_run_364 rfl ?_
      refine z_aload_n (q := 366) C 0 rfl rfl dX6_run_365 rfl ?_
      refine z_get (q := 369) (v := .ref (e 3)) C hiX6 0 12 rfl rfl (by decide) hf23 rfl dX6_run_366 rfl ?_
      refine z_iload_n (q := 370) C 2 rfl rfl dX6_run_369 rfl ?_
      refine z_iald (q := 371) C 4 rfl (i := q) (by omega) (by decide) dX6_run_370 rfl ?_
      refine z_iast (q := 372) (ws' := [(hm, .inr (6, [.int (nI 0), .int (zb mb), .int (zb ak), .int (nI cnt), .int (nI k), .ref (e 0), .int (nI nl), .ref (e 1), .int (nI md), .ref (e 2), .int (nI (memN mb ak cnt)), .int (nI md), .ref (e 3), .ref (e 4), .int (zb fu), .ref (e 5)])), (e 0, .inl (X.cI, 240, .inl (M 0))), (e 1, .inl (X.cI, 40, .inl (M 1))), (e 2, .inl (X.cI, 4200, .inl (upd f2 q (f3 q)))), (e 3, .inl (X.cI, 4207, .inl f3)), (e 4, .inl (X.cI, 2048, .inl f4)), (e 5, .inl (X.cI, 600, .inl (M 5)))]) C 3 rfl (i := q) (by omega) (by decide) dX6_run_371 rfl rfl ?_
      refine z_iinc (q := 375) (v := nI (q + 1)) (lv' := [(3, .int (nI (q + 1))), (0, .ref hm), (1, .int rv)]) C 2 dX6_run_372 rfl rfl (k_inc1 q) (by decide) rfl ?_
      refine z_goto (tgt := 349) C dX6_run_375 (by decide) ?_
      refine z_lv [1, 2, 0] rfl ?_
      exact ih (q + 1) (upd f2 q (f3 q)) (by omega) (by omega) (fun r hr => by show (if r = q then f3 q else f2 r) = f3 r; split; subst_vars; rfl; exact hf2 r (by omega))

set_option maxHeartbeats 4000000 in
set_option maxRecDepth 100000 in
theorem l_X6_run_t {X : zX} (hm : Nat) (e : Nat → Nat) (M : Nat → Nat → Int32) (mb ak : Bool) (cnt k nl n m : Nat) (hnl : nl ≤ 40) (hcn : cnt ≤ 9) (GL : List Row) (hG : mgRep (M 0) k GL) (f3 f4 : Nat → Int32) (md : Nat) (fu : Bool) (rv : Int32) (hR : mRep f3 f4 md fu (runS nl (M 1) (axSz mb ak cnt) GL).1) (hfu : fu = true ↔ (runS nl (M 1) (axSz mb ak cnt) GL).2 = (-1)) (hrv : fu = false → rv = (runS nl (M 1) (axSz mb ak cnt) GL).2) (C : zC X cX6_run 7 RX6 wsX6_run ({ frames := 3, cells := 0, slots := 0, locals := 82 } : Room)) (E : zE X (some .int) 0 0 (fun v w1 => (cdRun nl (M 1) (axSz mb ak cnt) GL = 1 ∧ ∃ (f3 f4 : Nat → Int32) (md1 : Nat) (fu1 : Bool), v = some (.int (nI 0)) ∧ w1 = [(hm, .inr (6, [.int (nI 1), .int (zb mb), .int (zb ak), .int (nI cnt), .int (nI k), .ref (e 0), .int (nI nl), .ref (e 1), .int (nI n), .ref (e 2), .int (nI m), .int (nI md1), .ref (e 3), .ref (e 4), .int (zb fu1), .ref (e 5)])), (e 0, .inl (X.cI, 240, .inl (M 0))), (e 1, .inl (X.cI, 40, .inl (M 1))), (e 2, .inl (X.cI, 4200, .inl (M 2))), (e 3, .inl (X.cI, 4207, .inl f3)), (e 4, .inl (X.cI, 2048, .inl f4)), (e 5, .inl (X.cI, 600, .inl (M 5)))]) ∨ (cdRun nl (M 1) (axSz mb ak cnt) GL = 0 ∧ ∃ (f2 f3 f4 : Nat → Int32) (n1 : Nat) (fu1 : Bool), cloRep f2 n1 (runS nl (M 1) (axSz mb ak cnt) GL).1.1 ∧ v = some (.int (runS nl (M 1) (axSz mb ak cnt) GL).2) ∧ w1 = [(hm, .inr (6, [.int (nI 0), .int (zb mb), .int (zb ak), .int (nI cnt), .int (nI k), .ref (e 0), .int (nI nl), .ref (e 1), .int (nI n1), .ref (e 2), .int (nI (memN mb ak cnt)), .int (nI n1), .ref (e 3), .ref (e 4), .int (zb fu1), .ref (e 5)])), (e 0, .inl (X.cI, 240, .inl (M 0))), (e 1, .inl (X.cI, 40, .inl (M 1))), (e 2, .inl (X.cI, 4200, .inl f2)), (e 3, .inl (X.cI, 4207, .inl f3)), (e 4, .inl (X.cI, 2048, .inl f4)), (e 5, .inl (X.cI, 600, .inl (M 5)))]))) : zW X 7 [(hm, .inr (6, [.int (nI 0), .int (zb mb), .int (zb ak), .int (nI cnt), .int (nI k), .ref (e 0), .int (nI nl), .ref (e 1), .int (nI n), .ref (e 2), .int (nI m), .int (nI md), .ref (e 3), .ref (e 4), .int (zb fu), .ref (e 5)])), (e 0, .inl (X.cI, 240, .inl (M 0))), (e 1, .inl (X.cI, 40, .inl (M 1))), (e 2, .inl (X.cI, 4200, .inl (M 2))), (e 3, .inl (X.cI, 4207, .inl f3)), (e 4, .inl (X.cI, 2048, .inl f4)), (e 5, .inl (X.cI, 600, .inl (M 5)))] 0 0 292 [(0, .ref hm), (1, .int rv)] [] := by
  have hiX6 : ∀ w ∈ u_ws RX6 TX6 16, w ∈ wsX6_run := by decide +kernel
  have hf7 : Cond.fieldLink RX6 7 "RdfsRulesModel" "counted" "I" ∈ wsX6_run := by decide +kernel
  have hf32 : Cond.fieldLink RX6 32 "RdfsRulesModel" "memberships" "Z" ∈ wsX6_run := by decide +kernel
  have hf75 : Cond.fieldLink RX6 75 "RdfsRulesModel" "asked" "Z" ∈ wsX6_run := by decide +kernel
  have hf85 : Cond.fieldLink RX6 85 "RdfsRulesModel" "full" "Z" ∈ wsX6_run := by decide +kernel
  have hf91 : Cond.fieldLink RX6 91 "RdfsRulesModel" "made" "I" ∈ wsX6_run := by decide +kernel
  have hf109 : Cond.fieldLink RX6 109 "RdfsRulesModel" "rows" "I" ∈ wsX6_run := by decide +kernel
  have hf112 : Cond.fieldLink RX6 112 "RdfsRulesModel" "among" "I" ∈ wsX6_run := by decide +kernel
  have hn6 := hR.2.1
  refine z_aload_n (q := 293) C 0 rfl rfl dX6_run_292 rfl ?_
  refine z_aload_n (q := 294) C 0 rfl rfl dX6_run_293 rfl ?_
  refine z_get (q := 297) (v := .int (zb fu)) C hiX6 0 14 rfl rfl (by decide) hf85 rfl dX6_run_294 rfl ?_
  refine z_if_eq_b (q := 300) (tgt := 304) C dX6_run_297 (by decide) rfl (fun c297 => ?_) (fun c297 => ?_)
  · skip
    refine z_iconst (q := 305) C k_iconst_0 dX6_run_304 rfl ?_
    refine z_callV (q := 308) (n := 1) (As := [.int (nI 0)]) (rest := []) (wr := [(e 0, .inl (X.cI, 240, .inl (M 0))), (e 1, .inl (X.cI, 40, .inl (M 1))), (e 2, .inl (X.cI, 4200, .inl (M 2))), (e 3, .inl (X.cI, 4207, .inl f3)), (e 4, .inl (X.cI, 2048, .inl f4)), (e 5, .inl (X.cI, 600, .inl (M 5)))]) C (c_X6_refuses X.l X.D X.2.1 hm e (setM M f3 f4) (nI 0) mb ak cnt k nl n m md fu 0 (by omega)) gX6_run_X6_refuses rfl rfl rfl (by decide +kernel) (by decide) ⟨by first | decide | omega, by first | decide | omega⟩ 0 6 rfl rfl [0] [1, 2, 3, 4, 5, 6] rfl rfl (by decide) (by decide) (by decide) rfl rfl (Nat.le_of_ble_eq_true rfl) dX6_run_305 rfl (fun v w1 hp => ?_)
    obtain ⟨rfl, rfl⟩ := hp
    show zW X 7 [(e 0, .inl (X.cI, 240, .inl (M 0))), (e 1, .inl (X.cI, 40, .inl (M 1))), (e 2, .inl (X.cI, 4200, .inl (M 2))), (e 3, .inl (X.cI, 4207, .inl f3)), (e 4, .inl (X.cI, 2048, .inl f4)), (e 5, .inl (X.cI, 600, .inl (M 5))), (hm, .inr (6, [.int (nI 0), .int (zb mb), .int (zb ak), .int (nI cnt), .int (nI k), .ref (e 0), .int (nI nl), .ref (e 1), .int (nI n), .ref (e 2), .int (nI m), .int (nI md), .ref (e 3), .ref (e 4), .int (zb fu), .ref (e 5)]))] _ _ 308 _ [.int (zb (decide (0 < 0)))]
    refine z_ws (ws' := [(hm, .inr (6, [.int (nI 0), .int (zb mb), .int (zb ak), .int (nI cnt), .int (nI k), .ref (e 0), .int (nI nl), .ref (e 1), .int (nI n), .ref (e 2), .int (nI m), .int (nI md), .ref (e 3), .ref (e 4), .int (zb fu), .ref (e 5)])), (e 0, .inl (X.cI, 240, .inl (M 0))), (e 1, .inl (X.cI, 40, .inl (M 1))), (e 2, .inl (X.cI, 4200, .inl (M 2))), (e 3, .inl (X.cI, 4207, .inl f3)), (e 4, .inl (X.cI, 2048, .inl f4)), (e 5, .inl (X.cI, 600, .inl (M 5)))]) [6, 0, 1, 2, 3, 4, 5] (by decide) rfl ?_
    refine z_if_eq_b (q := 311) (tgt := 313) C dX6_run_308 (by decide) rfl (fun c308 => ?_) (fun c308 => ?_)
    · skip
      refine z_aload_n (q := 314) C 0 rfl rfl dX6_run_313 rfl ?_
      refine z_aload_n (q := 315) C 0 rfl rfl dX6_run_314 rfl ?_
      refine z_get (q := 318) (v := .int (nI md)) C hiX6 0 11 rfl rfl (by decide) hf91 rfl dX6_run_315 rfl ?_
      refine z_put (q := 321) (ws' := [(hm, .inr (6, [.int (nI 0), .int (zb mb), .int (zb ak), .int (nI cnt), .int (nI k), .ref (e 0), .int (nI nl), .ref (e 1), .int (nI md), .ref (e 2), .int (nI m), .int (nI md), .ref (e 3), .ref (e 4), .int (zb fu), .ref (e 5)])), (e 0, .inl (X.cI, 240, .inl (M 0))), (e 1, .inl (X.cI, 40, .inl (M 1))), (e 2, .inl (X.cI, 4200, .inl (M 2))), (e 3, .inl (X.cI, 4207, .inl f3)), (e 4, .inl (X.cI, 2048, .inl f4)), (e 5, .inl (X.cI, 600, .inl (M 5)))]) C hiX6 tyX6_ok nmX6 0 8 rfl rfl (by decide) hf109 rfl rfl rfl (Nat.le_of_ble_eq_true rfl) dX6_run_318 rfl rfl ?_
      refine z_aload_n (q := 322) C 0 rfl rfl dX6_run_321 rfl ?_
      refine z_aload_n (q := 323) C 0 rfl rfl dX6_run_322 rfl ?_
      refine z_get (q := 326) (v := .int (zb ak)) C hiX6 0 2 rfl rfl (by decide) hf75 rfl dX6_run_323 rfl ?_
      refine z_if_eq_b (q := 329) (tgt := 343) C dX6_run_326 (by decide) rfl (fun c326 => ?_) (fun c326 => ?_)
      · skip
        refine z_iconst (q := 344) C k_iconst_0 dX6_run_343 rfl ?_
        refine z_eqi (y := nI (memN mb ak cnt)) (by rw [show memN mb ak cnt = 0 from if_neg (fun z => by first | (rw [c326] at z; exact absurd z.1 (by decide)) | (rw [c333] at z; exact absurd z.2 (by decide)))]) ?_
        refine z_put (q := 347) (ws' := [(hm, .inr (6, [.int (nI 0), .int (zb mb), .int (zb ak), .int (nI cnt), .int (nI k), .ref (e 0), .int (nI nl), .ref (e 1), .int (nI md), .ref (e 2), .int (nI (memN mb ak cnt)), .int (nI md), .ref (e 3), .ref (e 4), .int (zb fu), .ref (e 5)])), (e 0, .inl (X.cI, 240, .inl (M 0))), (e 1, .inl (X.cI, 40, .inl (M 1))), (e 2, .inl (X.cI, 4200, .inl (M 2))), (e 3, .inl (X.cI, 4207, .inl f3)), (e 4, .inl (X.cI, 2048, .inl f4)), (e 5, .inl (X.cI, 600, .inl (M 5)))]) C hiX6 tyX6_ok nmX6 0 10 rfl rfl (by decide) hf112 rfl rfl rfl (Nat.le_of_ble_eq_true rfl) dX6_run_344 rfl rfl ?_
        refine z_iconst (q := 348) C k_iconst_0 dX6_run_347 rfl ?_
        refine z_istore_n (q := 349) (lv' := [(3, .int (nI 0)), (0, .ref hm), (1, .int rv)]) C rfl dX6_run_348 rfl (by decide) rfl ?_
        refine z_lv [1, 2, 0] rfl ?_
        exact l_X6_run_c hm e M mb ak cnt k nl n m hnl hcn GL hG f3 f4 md fu rv hR (hrv c297) (if_neg (fun z => by rw [hfu.mpr z] at c297; cases c297)) C E (7 * md + 1) 0 (M 2) (by omega) (by omega) (fun r hr => absurd hr (Nat.not_lt_zero r))
      · skip
        refine z_aload_n (q := 330) C 0 rfl rfl dX6_run_329 rfl ?_
        refine z_get (q := 333) (v := .int (zb mb)) C hiX6 0 1 rfl rfl (by decide) hf32 rfl dX6_run_330 rfl ?_
        refine z_if_eq_b (q := 336) (tgt := 343) C dX6_run_333 (by decide) rfl (fun c333 => ?_) (fun c333 => ?_)
        · skip
          refine z_iconst (q := 344) C k_iconst_0 dX6_run_343 rfl ?_
          refine z_eqi (y := nI (memN mb ak cnt)) (by rw [show memN mb ak cnt = 0 from if_neg (fun z => by first | (rw [c326] at z; exact absurd z.1 (by decide)) | (rw [c333] at z; exact absurd z.2 (by decide)))]) ?_
          refine z_put (q := 347) (ws' := [(hm, .inr (6, [.int (nI 0), .int (zb mb), .int (zb ak), .int (nI cnt), .int (nI k), .ref (e 0), .int (nI nl), .ref (e 1), .int (nI md), .ref (e 2), .int (nI (memN mb ak cnt)), .int (nI md), .ref (e 3), .ref (e 4), .int (zb fu), .ref (e 5)])), (e 0, .inl (X.cI, 240, .inl (M 0))), (e 1, .inl (X.cI, 40, .inl (M 1))), (e 2, .inl (X.cI, 4200, .inl (M 2))), (e 3, .inl (X.cI, 4207, .inl f3)), (e 4, .inl (X.cI, 2048, .inl f4)), (e 5, .inl (X.cI, 600, .inl (M 5)))]) C hiX6 tyX6_ok nmX6 0 10 rfl rfl (by decide) hf112 rfl rfl rfl (Nat.le_of_ble_eq_true rfl) dX6_run_344 rfl rfl ?_
          refine z_iconst (q := 348) C k_iconst_0 dX6_run_347 rfl ?_
          refine z_istore_n (q := 349) (lv' := [(3, .int (nI 0)), (0, .ref hm), (1, .int rv)]) C rfl dX6_run_348 rfl (by decide) rfl ?_
          refine z_lv [1, 2, 0] rfl ?_
          exact l_X6_run_c hm e M mb ak cnt k nl n m hnl hcn GL hG f3 f4 md fu rv hR (hrv c297) (if_neg (fun z => by rw [hfu.mpr z] at c297; cases c297)) C E (7 * md + 1) 0 (M 2) (by omega) (by omega) (fun r hr => absurd hr (Nat.not_lt_zero r))
        · skip
          refine z_aload_n (q := 337) C 0 rfl rfl dX6_run_336 rfl ?_
          refine z_get (q := 340) (v := .int (nI cnt)) C hiX6 0 3 rfl rfl (by decide) hf7 rfl dX6_run_337 rfl ?_
          refine z_goto (tgt := 344) C dX6_run_340 (by decide) ?_
          refine z_eqi (y := nI (memN mb ak cnt)) (by rw [show memN mb ak cnt = cnt from if_pos ⟨c326, c333⟩]) ?_
          refine z_put (q := 347) (ws' := [(hm, .inr (6, [.int (nI 0), .int (zb mb), .int (zb ak), .int (nI cnt), .int (nI k), .ref (e 0), .int (nI nl), .ref (e 1), .int (nI md), .ref (e 2), .int (nI (memN mb ak cnt)), .int (nI md), .ref (e 3), .ref (e 4), .int (zb fu), .ref (e 5)])), (e 0, .inl (X.cI, 240, .inl (M 0))), (e 1, .inl (X.cI, 40, .inl (M 1))), (e 2, .inl (X.cI, 4200, .inl (M 2))), (e 3, .inl (X.cI, 4207, .inl f3)), (e 4, .inl (X.cI, 2048, .inl f4)), (e 5, .inl (X.cI, 600, .inl (M 5)))]) C hiX6 tyX6_ok nmX6 0 10 rfl rfl (by decide) hf112 rfl rfl rfl (Nat.le_of_ble_eq_true rfl) dX6_run_344 rfl rfl ?_
          refine z_iconst (q := 348) C k_iconst_0 dX6_run_347 rfl ?_
          refine z_istore_n (q := 349) (lv' := [(3, .int (nI 0)), (0, .ref hm), (1, .int rv)]) C rfl dX6_run_348 rfl (by decide) rfl ?_
          refine z_lv [1, 2, 0] rfl ?_
          exact l_X6_run_c hm e M mb ak cnt k nl n m hnl hcn GL hG f3 f4 md fu rv hR (hrv c297) (if_neg (fun z => by rw [hfu.mpr z] at c297; cases c297)) C E (7 * md + 1) 0 (M 2) (by omega) (by omega) (fun r hr => absurd hr (Nat.not_lt_zero r))
    · skip
      exact absurd c308 (by decide)
  · skip
    refine z_iconst (q := 301) C k_iconst_1 dX6_run_300 rfl ?_
    refine z_goto (tgt := 305) C dX6_run_301 (by decide) ?_
    refine z_callV (q := 308) (n := 1) (As := [.int (nI 1)]) (rest := []) (wr := [(e 0, .inl (X.cI, 240, .inl (M 0))), (e 1, .inl (X.cI, 40, .inl (M 1))), (e 2, .inl (X.cI, 4200, .inl (M 2))), (e 3, .inl (X.cI, 4207, .inl f3)), (e 4, .inl (X.cI, 2048, .inl f4)), (e 5, .inl (X.cI, 600, .inl (M 5)))]) C (c_X6_refuses X.l X.D X.2.1 hm e (setM M f3 f4) (nI 0) mb ak cnt k nl n m md fu 1 (by omega)) gX6_run_X6_refuses rfl rfl rfl (by decide +kernel) (by decide) ⟨by first | decide | omega, by first | decide | omega⟩ 0 6 rfl rfl [0] [1, 2, 3, 4, 5, 6] rfl rfl (by decide) (by decide) (by decide) rfl rfl (Nat.le_of_ble_eq_true rfl) dX6_run_305 rfl (fun v w1 hp => ?_)
    obtain ⟨rfl, rfl⟩ := hp
    show zW X 7 [(e 0, .inl (X.cI, 240, .inl (M 0))), (e 1, .inl (X.cI, 40, .inl (M 1))), (e 2, .inl (X.cI, 4200, .inl (M 2))), (e 3, .inl (X.cI, 4207, .inl f3)), (e 4, .inl (X.cI, 2048, .inl f4)), (e 5, .inl (X.cI, 600, .inl (M 5))), (hm, .inr (6, [.int (nI 1), .int (zb mb), .int (zb ak), .int (nI cnt), .int (nI k), .ref (e 0), .int (nI nl), .ref (e 1), .int (nI n), .ref (e 2), .int (nI m), .int (nI md), .ref (e 3), .ref (e 4), .int (zb fu), .ref (e 5)]))] _ _ 308 _ [.int (zb (decide (0 < 1)))]
    refine z_ws (ws' := [(hm, .inr (6, [.int (nI 1), .int (zb mb), .int (zb ak), .int (nI cnt), .int (nI k), .ref (e 0), .int (nI nl), .ref (e 1), .int (nI n), .ref (e 2), .int (nI m), .int (nI md), .ref (e 3), .ref (e 4), .int (zb fu), .ref (e 5)])), (e 0, .inl (X.cI, 240, .inl (M 0))), (e 1, .inl (X.cI, 40, .inl (M 1))), (e 2, .inl (X.cI, 4200, .inl (M 2))), (e 3, .inl (X.cI, 4207, .inl f3)), (e 4, .inl (X.cI, 2048, .inl f4)), (e 5, .inl (X.cI, 600, .inl (M 5)))]) [6, 0, 1, 2, 3, 4, 5] (by decide) rfl ?_
    refine z_if_eq_b (q := 311) (tgt := 313) C dX6_run_308 (by decide) rfl (fun c308 => ?_) (fun c308 => ?_)
    · skip
      exact absurd c308 (by decide)
    · skip
      refine z_iconst (q := 312) C k_iconst_0 dX6_run_311 rfl ?_
      refine z_iret C E (by omega) (by omega) dX6_run_312 ?_
      exact Or.inl ⟨if_pos (hfu.mp c297), f3, f4, md, fu, rfl, rfl⟩

set_option maxHeartbeats 4000000 in
set_option maxRecDepth 100000 in
theorem l_X6_run_s {X : zX} (hm : Nat) (e : Nat → Nat) (M : Nat → Nat → Int32) (mb ak : Bool) (cnt k nl n m : Nat) (hnl : nl ≤ 40) (hcn : cnt ≤ 9) (GL : List Row) (hG : mgRep (M 0) k GL) (hf : ∀ j, j < nl → tok nl (M 1 j)) (L : List Row) (n0 : Nat) (hL : L.length = n0) (hn0 : n0 ≤ 600) (hTL : TOK nl L) (rr : Nat) (hrr : rr ≤ 600) (r : Nat) (hr : r < 14) (hfp : firstP r = (-1)) (Sr : RSt) (hSr : stp (L, false) Sr) (hTS : TOK nl Sr.1) (hnext : ∀ (f3 f4 : Nat → Int32) (md : Nat) (fu : Bool), mRep f3 f4 md fu (singN nl (M 1) L r (nI (rr + 1)) Sr n0) → zW X 7 [(hm, .inr (6, [.int (nI 0), .int (zb mb), .int (zb ak), .int (nI cnt), .int (nI k), .ref (e 0), .int (nI nl), .ref (e 1), .int (nI n), .ref (e 2), .int (nI m), .int (nI md), .ref (e 3), .ref (e 4), .int (zb fu), .ref (e 5)])), (e 0, .inl (X.cI, 240, .inl (M 0))), (e 1, .inl (X.cI, 40, .inl (M 1))), (e 2, .inl (X.cI, 4200, .inl (M 2))), (e 3, .inl (X.cI, 4207, .inl f3)), (e 4, .inl (X.cI, 2048, .inl f4)), (e 5, .inl (X.cI, 600, .inl (M 5)))] 0 0 267 [(0, .ref hm), (1, .int (nI rr)), (2, .int (nI n0)), (3, .int (nI r))] []) (C : zC X cX6_run 7 RX6 wsX6_run ({ frames := 3, cells := 0, slots := 0, locals := 82 } : Room)) (E : zE X (some .int) 0 0 (fun v w1 => (cdRun nl (M 1) (axSz mb ak cnt) GL = 1 ∧ ∃ (f3 f4 : Nat → Int32) (md1 : Nat) (fu1 : Bool), v = some (.int (nI 0)) ∧ w1 = [(hm, .inr (6, [.int (nI 1), .int (zb mb), .int (zb ak), .int (nI cnt), .int (nI k), .ref (e 0), .int (nI nl), .ref (e 1), .int (nI n), .ref (e 2), .int (nI m), .int (nI md1), .ref (e 3), .ref (e 4), .int (zb fu1), .ref (e 5)])), (e 0, .inl (X.cI, 240, .inl (M 0))), (e 1, .inl (X.cI, 40, .inl (M 1))), (e 2, .inl (X.cI, 4200, .inl (M 2))), (e 3, .inl (X.cI, 4207, .inl f3)), (e 4, .inl (X.cI, 2048, .inl f4)), (e 5, .inl (X.cI, 600, .inl (M 5)))]) ∨ (cdRun nl (M 1) (axSz mb ak cnt) GL = 0 ∧ ∃ (f2 f3 f4 : Nat → Int32) (n1 : Nat) (fu1 : Bool), cloRep f2 n1 (runS nl (M 1) (axSz mb ak cnt) GL).1.1 ∧ v = some (.int (runS nl (M 1) (axSz mb ak cnt) GL).2) ∧ w1 = [(hm, .inr (6, [.int (nI 0), .int (zb mb), .int (zb ak), .int (nI cnt), .int (nI k), .ref (e 0), .int (nI nl), .ref (e 1), .int (nI n1), .ref (e 2), .int (nI (memN mb ak cnt)), .int (nI n1), .ref (e 3), .ref (e 4), .int (zb fu1), .ref (e 5)])), (e 0, .inl (X.cI, 240, .inl (M 0))), (e 1, .inl (X.cI, 40, .inl (M 1))), (e 2, .inl (X.cI, 4200, .inl f2)), (e 3, .inl (X.cI, 4207, .inl f3)), (e 4, .inl (X.cI, 2048, .inl f4)), (e 5, .inl (X.cI, 600, .inl (M 5)))]))) : ∀ (z : Nat) (i : Nat) (f3 f4 : Nat → Int32) (md : Nat) (fu : Bool), i ≤ n0 → n0 < i + z → mRep f3 f4 md fu (singN nl (M 1) L r (nI (rr + 1)) Sr i) → zW X 7 [(hm, .inr (6, [.int (nI 0), .int (zb mb), .int (zb ak), .int (nI cnt), .int (nI k), .ref (e 0), .int (nI nl), .ref (e 1), .int (nI n), .ref (e 2), .int (nI m), .int (nI md), .ref (e 3), .ref (e 4), .int (zb fu), .ref (e 5)])), (e 0, .inl (X.cI, 240, .inl (M 0))), (e 1, .inl (X.cI, 40, .inl (M 1))), (e 2, .inl (X.cI, 4200, .inl (M 2))), (e 3, .inl (X.cI, 4207, .inl f3)), (e 4, .inl (X.cI, 2048, .inl f4)), (e 5, .inl (X.cI, 600, .inl (M 5)))] 0 0 186 [(0, .ref hm), (1, .int (nI rr)), (2, .int (nI n0)), (3, .int (nI r)), (4, .int (firstP r)), (5, .int (nI i))] [] := by
  have hiX6 : ∀ w ∈ u_ws RX6 TX6 16, w ∈ wsX6_run := by decide +kernel
  have hf85 : Cond.fieldLink RX6 85 "RdfsRulesModel" "full" "Z" ∈ wsX6_run := by decide +kernel
  intro z
  induction z with
  | zero =>
    intro i f3 f4 md fu hi hz hR
    exfalso
    omega
  | succ z ih =>
    intro i f3 f4 md fu hi hz hR
    have hst := hSr.tr (singN_stp (nl := nl) (f := M 1) (L := L) (rule := r) (rd := nI (rr + 1)) Sr i)
    have hle : n0 ≤ md := by rw [← hL, ← hR.1]; exact hst.len
    have hn6 := hR.2.1
    refine z_iload (q := 188) C 5 rfl dX6_run_186 rfl ?_
    refine z_iload_n (q := 189) C 2 rfl rfl dX6_run_188 rfl ?_
    refine z_icmp_ge_n (q := 192) (tgt := 267) C (by omega) (by omega) dX6_run_189 (by decide) rfl (fun c189 => ?_) (fun c189 => ?_)
    · skip
      refine z_lv [0, 1, 2, 3] rfl ?_
      obtain rfl : i = n0 := by omega
      exact hnext f3 f4 md fu hR
    · skip
      refine z_aload_n (q := 193) C 0 rfl rfl dX6_run_192 rfl ?_
      refine z_get (q := 196) (v := .int (zb fu)) C hiX6 0 14 rfl rfl (by decide) hf85 rfl dX6_run_193 rfl ?_
      refine z_if_ne_b (q := 199) (tgt := 267) C dX6_run_196 (by decide) rfl (fun c196 => ?_) (fun c196 => ?_)
      · skip
        refine z_lv [0, 1, 2, 3] rfl ?_
        exact hnext f3 f4 md fu (by rw [(singN_mono (nl := nl) (f := M 1) (L := L) (rule := r) (rd := nI (rr + 1)) Sr i n0 (by omega)).2 (by rw [hR.2.2.1]; exact c196)]; exact hR)
      · skip
        refine z_iload (q := 201) C 4 rfl dX6_run_199 rfl ?_
        refine z_if_ge_i (q := 204) (tgt := 217) C rfl dX6_run_201 (by decide) rfl (fun c201 => ?_) (fun c201 => ?_)
        · skip
          exact absurd c201 (by rw [hfp]; decide)
        · skip
          refine z_aload_n (q := 205) C 0 rfl rfl dX6_run_204 rfl ?_
          refine z_iload_n (q := 206) C 3 rfl rfl dX6_run_205 rfl ?_
          refine z_iload (q := 208) C 5 rfl dX6_run_206 rfl ?_
          refine z_iload_n (q := 209) C 1 rfl rfl dX6_run_208 rfl ?_
          refine z_iconst (q := 210) C k_iconst_1 dX6_run_209 rfl ?_
          refine z_iadd (q := 211) C dX6_run_210 rfl ?_
          refine z_eqi (y := nI (rr + 1)) (nI_add rr 1) ?_
          refine z_callV (q := 214) (n := 3) (As := [.int (nI r), .int (nI i), .int (nI (rr + 1))]) (rest := []) (wr := []) C (c_X6_ofOne X.l X.D X.2.1 hm e (setM M f3 f4) (nI 0) mb ak cnt k nl n m md fu hnl hf (singN nl (M 1) L r (nI (rr + 1)) Sr i) hR r i (nI (rr + 1)) (by omega) (singN_tok hf hTL hTS i (by omega)) (firstP_sing hr hfp)) gX6_run_X6_ofOne rfl rfl rfl (by decide +kernel) (by decide) ⟨by first | decide | omega, by first | decide | omega⟩ 0 6 rfl rfl [0, 1, 2, 3, 4, 5, 6] [] rfl rfl (by decide) (by decide) (by decide) rfl rfl (Nat.le_of_ble_eq_true rfl) dX6_run_211 rfl (fun v w1 hp => ?_)
          obtain ⟨f5, f6, md1, fu1, hR1, rfl, rfl⟩ := hp
          have hR1 : mRep f5 f6 md1 fu1 (addL (singN nl (M 1) L r (nI (rr + 1)) Sr i) r (nI i) (-1) (nI (rr + 1)) (oneL nl (M 1) r (f3 (7 * i + 0)) (f3 (7 * i + 1)) (f3 (7 * i + 2)))) := hR1
          rw [hR.row hst (by omega) (by omega), hR.row hst (by omega) (by omega), hR.row hst (by omega) (by omega)] at hR1
          show zW X 7 [(hm, .inr (6, [.int (nI 0), .int (zb mb), .int (zb ak), .int (nI cnt), .int (nI k), .ref (e 0), .int (nI nl), .ref (e 1), .int (nI n), .ref (e 2), .int (nI m), .int (nI md1), .ref (e 3), .ref (e 4), .int (zb fu1), .ref (e 5)])), (e 0, .inl (X.cI, 240, .inl (M 0))), (e 1, .inl (X.cI, 40, .inl (M 1))), (e 2, .inl (X.cI, 4200, .inl (M 2))), (e 3, .inl (X.cI, 4207, .inl f5)), (e 4, .inl (X.cI, 2048, .inl f6)), (e 5, .inl (X.cI, 600, .inl (M 5)))] _ _ 214 _ []
          refine z_goto (tgt := 261) C dX6_run_214 (by decide) ?_
          refine z_iinc (q := 264) (v := nI (i + 1)) (lv' := [(5, .int (nI (i + 1))), (0, .ref hm), (1, .int (nI rr)), (2, .int (nI n0)), (3, .int (nI r)), (4, .int (firstP r))]) C 5 dX6_run_261 rfl rfl (k_inc1 i) (by decide) rfl ?_
          refine z_goto (tgt := 186) C dX6_run_264 (by decide) ?_
          refine z_lv [1, 2, 3, 4, 5, 0] rfl ?_
          exact ih (i + 1) f5 f6 md1 fu1 (by omega) (by omega) hR1

set_option maxHeartbeats 4000000 in
set_option maxRecDepth 100000 in
theorem l_X6_run_k {X : zX} (hm : Nat) (e : Nat → Nat) (M : Nat → Nat → Int32) (mb ak : Bool) (cnt k nl n m : Nat) (hnl : nl ≤ 40) (hcn : cnt ≤ 9) (GL : List Row) (hG : mgRep (M 0) k GL) (hf : ∀ j, j < nl → tok nl (M 1 j)) (L : List Row) (n0 : Nat) (hL : L.length = n0) (hn0 : n0 ≤ 600) (hTL : TOK nl L) (rr : Nat) (hrr : rr ≤ 600) (r : Nat) (hr : r < 14) (hfp : ¬ firstP r = (-1)) (i : Nat) (hi : i < n0) (Si : RSt) (hSi : stp (L, false) Si) (hTi : TOK nl Si.1) (hnext : ∀ (f3 f4 : Nat → Int32) (md : Nat) (fu : Bool), mRep f3 f4 md fu (pairN nl L r (nI (rr + 1)) i Si n0) → zW X 7 [(hm, .inr (6, [.int (nI 0), .int (zb mb), .int (zb ak), .int (nI cnt), .int (nI k), .ref (e 0), .int (nI nl), .ref (e 1), .int (nI n), .ref (e 2), .int (nI m), .int (nI md), .ref (e 3), .ref (e 4), .int (zb fu), .ref (e 5)])), (e 0, .inl (X.cI, 240, .inl (M 0))), (e 1, .inl (X.cI, 40, .inl (M 1))), (e 2, .inl (X.cI, 4200, .inl (M 2))), (e 3, .inl (X.cI, 4207, .inl f3)), (e 4, .inl (X.cI, 2048, .inl f4)), (e 5, .inl (X.cI, 600, .inl (M 5)))] 0 0 261 [(0, .ref hm), (1, .int (nI rr)), (2, .int (nI n0)), (3, .int (nI r)), (4, .int (firstP r)), (5, .int (nI i))] []) (C : zC X cX6_run 7 RX6 wsX6_run ({ frames := 3, cells := 0, slots := 0, locals := 82 } : Room)) (E : zE X (some .int) 0 0 (fun v w1 => (cdRun nl (M 1) (axSz mb ak cnt) GL = 1 ∧ ∃ (f3 f4 : Nat → Int32) (md1 : Nat) (fu1 : Bool), v = some (.int (nI 0)) ∧ w1 = [(hm, .inr (6, [.int (nI 1), .int (zb mb), .int (zb ak), .int (nI cnt), .int (nI k), .ref (e 0), .int (nI nl), .ref (e 1), .int (nI n), .ref (e 2), .int (nI m), .int (nI md1), .ref (e 3), .ref (e 4), .int (zb fu1), .ref (e 5)])), (e 0, .inl (X.cI, 240, .inl (M 0))), (e 1, .inl (X.cI, 40, .inl (M 1))), (e 2, .inl (X.cI, 4200, .inl (M 2))), (e 3, .inl (X.cI, 4207, .inl f3)), (e 4, .inl (X.cI, 2048, .inl f4)), (e 5, .inl (X.cI, 600, .inl (M 5)))]) ∨ (cdRun nl (M 1) (axSz mb ak cnt) GL = 0 ∧ ∃ (f2 f3 f4 : Nat → Int32) (n1 : Nat) (fu1 : Bool), cloRep f2 n1 (runS nl (M 1) (axSz mb ak cnt) GL).1.1 ∧ v = some (.int (runS nl (M 1) (axSz mb ak cnt) GL).2) ∧ w1 = [(hm, .inr (6, [.int (nI 0), .int (zb mb), .int (zb ak), .int (nI cnt), .int (nI k), .ref (e 0), .int (nI nl), .ref (e 1), .int (nI n1), .ref (e 2), .int (nI (memN mb ak cnt)), .int (nI n1), .ref (e 3), .ref (e 4), .int (zb fu1), .ref (e 5)])), (e 0, .inl (X.cI, 240, .inl (M 0))), (e 1, .inl (X.cI, 40, .inl (M 1))), (e 2, .inl (X.cI, 4200, .inl f2)), (e 3, .inl (X.cI, 4207, .inl f3)), (e 4, .inl (X.cI, 2048, .inl f4)), (e 5, .inl (X.cI, 600, .inl (M 5)))]))) : ∀ (z : Nat) (j : Nat) (f3 f4 : Nat → Int32) (md : Nat) (fu : Bool), j ≤ n0 → n0 < j + z → mRep f3 f4 md fu (pairN nl L r (nI (rr + 1)) i Si j) → zW X 7 [(hm, .inr (6, [.int (nI 0), .int (zb mb), .int (zb ak), .int (nI cnt), .int (nI k), .ref (e 0), .int (nI nl), .ref (e 1), .int (nI n), .ref (e 2), .int (nI m), .int (nI md), .ref (e 3), .ref (e 4), .int (zb fu), .ref (e 5)])), (e 0, .inl (X.cI, 240, .inl (M 0))), (e 1, .inl (X.cI, 40, .inl (M 1))), (e 2, .inl (X.cI, 4200, .inl (M 2))), (e 3, .inl (X.cI, 4207, .inl f3)), (e 4, .inl (X.cI, 2048, .inl f4)), (e 5, .inl (X.cI, 600, .inl (M 5)))] 0 0 237 [(0, .ref hm), (1, .int (nI rr)), (2, .int (nI n0)), (3, .int (nI r)), (4, .int (firstP r)), (5, .int (nI i)), (6, .int (nI j))] [] := by
  intro z
  induction z with
  | zero =>
    intro j f3 f4 md fu hj hz hR
    exfalso
    omega
  | succ z ih =>
    intro j f3 f4 md fu hj hz hR
    have hst := hSi.tr (pairN_stp (nl := nl) (L := L) (rule := r) (rd := nI (rr + 1)) i Si j)
    have hle : n0 ≤ md := by rw [← hL, ← hR.1]; exact hst.len
    have hn6 := hR.2.1
    refine z_iload (q := 239) C 6 rfl dX6_run_237 rfl ?_
    refine z_iload_n (q := 240) C 2 rfl rfl dX6_run_239 rfl ?_
    refine z_icmp_ge_n (q := 243) (tgt := 261) C (by omega) (by omega) dX6_run_240 (by decide) rfl (fun c240 => ?_) (fun c240 => ?_)
    · skip
      refine z_lv [0, 1, 2, 3, 4, 5] rfl ?_
      obtain rfl : j = n0 := by omega
      exact hnext f3 f4 md fu hR
    · skip
      refine z_aload_n (q := 244) C 0 rfl rfl dX6_run_243 rfl ?_
      refine z_iload_n (q := 245) C 3 rfl rfl dX6_run_244 rfl ?_
      refine z_iload (q := 247) C 5 rfl dX6_run_245 rfl ?_
      refine z_iload (q := 249) C 6 rfl dX6_run_247 rfl ?_
      refine z_iload_n (q := 250) C 1 rfl rfl dX6_run_249 rfl ?_
      refine z_iconst (q := 251) C k_iconst_1 dX6_run_250 rfl ?_
      refine z_iadd (q := 252) C dX6_run_251 rfl ?_
      refine z_eqi (y := nI (rr + 1)) (nI_add rr 1) ?_
      refine z_callV (q := 255) (n := 4) (As := [.int (nI r), .int (nI i), .int (nI j), .int (nI (rr + 1))]) (rest := []) (wr := []) C (c_X6_ofTwo X.l X.D X.2.1 hm e (setM M f3 f4) (nI 0) mb ak cnt k nl n m md fu hnl (pairN nl L r (nI (rr + 1)) i Si j) hR r i j (nI (rr + 1)) (by omega) (by omega) (pairN_tok hTL (by omega) hTi j (by omega)) (firstP_pairs hfp)) gX6_run_X6_ofTwo rfl rfl rfl (by decide +kernel) (by decide) ⟨by first | decide | omega, by first | decide | omega⟩ 0 6 rfl rfl [0, 1, 2, 3, 4, 5, 6] [] rfl rfl (by decide) (by decide) (by decide) rfl rfl (Nat.le_of_ble_eq_true rfl) dX6_run_252 rfl (fun v w1 hp => ?_)
      obtain ⟨f5, f6, md1, fu1, hR1, rfl, rfl⟩ := hp
      have hR1 : mRep f5 f6 md1 fu1 (addL (pairN nl L r (nI (rr + 1)) i Si j) r (nI i) (nI j) (nI (rr + 1)) (twoL nl r (f3 (7 * i + 0)) (f3 (7 * i + 2)) (f3 (7 * j + 0)) (f3 (7 * j + 1)) (f3 (7 * j + 2)))) := hR1
      rw [hR.row hst (i := i) (j := 0) (by omega) (by omega), hR.row hst (i := i) (j := 2) (by omega) (by omega), hR.row hst (i := j) (j := 0) (by omega) (by omega), hR.row hst (i := j) (j := 1) (by omega) (by omega), hR.row hst (i := j) (j := 2) (by omega) (by omega)] at hR1
      show zW X 7 [(hm, .inr (6, [.int (nI 0), .int (zb mb), .int (zb ak), .int (nI cnt), .int (nI k), .ref (e 0), .int (nI nl), .ref (e 1), .int (nI n), .ref (e 2), .int (nI m), .int (nI md1), .ref (e 3), .ref (e 4), .int (zb fu1), .ref (e 5)])), (e 0, .inl (X.cI, 240, .inl (M 0))), (e 1, .inl (X.cI, 40, .inl (M 1))), (e 2, .inl (X.cI, 4200, .inl (M 2))), (e 3, .inl (X.cI, 4207, .inl f5)), (e 4, .inl (X.cI, 2048, .inl f6)), (e 5, .inl (X.cI, 600, .inl (M 5)))] _ _ 255 _ []
      refine z_iinc (q := 258) (v := nI (j + 1)) (lv' := [(6, .int (nI (j + 1))), (0, .ref hm), (1, .int (nI rr)), (2, .int (nI n0)), (3, .int (nI r)), (4, .int (firstP r)), (5, .int (nI i))]) C 6 dX6_run_255 rfl rfl (k_inc1 j) (by decide) rfl ?_
      refine z_goto (tgt := 237) C dX6_run_258 (by decide) ?_
      refine z_lv [1, 2, 3, 4, 5, 6, 0] rfl ?_
      exact ih (j + 1) f5 f6 md1 fu1 (by omega) (by omega) hR1

set_option maxHeartbeats 4000000 in
set_option maxRecDepth 100000 in
theorem l_X6_run_p {X : zX} (hm : Nat) (e : Nat → Nat) (M : Nat → Nat → Int32) (mb ak : Bool) (cnt k nl n m : Nat) (hnl : nl ≤ 40) (hcn : cnt ≤ 9) (GL : List Row) (hG : mgRep (M 0) k GL) (hf : ∀ j, j < nl → tok nl (M 1 j)) (L : List Row) (n0 : Nat) (hL : L.length = n0) (hn0 : n0 ≤ 600) (hTL : TOK nl L) (rr : Nat) (hrr : rr ≤ 600) (r : Nat) (hr : r < 14) (hfp : ¬ firstP r = (-1)) (Sr : RSt) (hSr : stp (L, false) Sr) (hTS : TOK nl Sr.1) (hnext : ∀ (f3 f4 : Nat → Int32) (md : Nat) (fu : Bool), mRep f3 f4 md fu (pairsN nl L r (nI (rr + 1)) Sr n0) → zW X 7 [(hm, .inr (6, [.int (nI 0), .int (zb mb), .int (zb ak), .int (nI cnt), .int (nI k), .ref (e 0), .int (nI nl), .ref (e 1), .int (nI n), .ref (e 2), .int (nI m), .int (nI md), .ref (e 3), .ref (e 4), .int (zb fu), .ref (e 5)])), (e 0, .inl (X.cI, 240, .inl (M 0))), (e 1, .inl (X.cI, 40, .inl (M 1))), (e 2, .inl (X.cI, 4200, .inl (M 2))), (e 3, .inl (X.cI, 4207, .inl f3)), (e 4, .inl (X.cI, 2048, .inl f4)), (e 5, .inl (X.cI, 600, .inl (M 5)))] 0 0 267 [(0, .ref hm), (1, .int (nI rr)), (2, .int (nI n0)), (3, .int (nI r))] []) (C : zC X cX6_run 7 RX6 wsX6_run ({ frames := 3, cells := 0, slots := 0, locals := 82 } : Room)) (E : zE X (some .int) 0 0 (fun v w1 => (cdRun nl (M 1) (axSz mb ak cnt) GL = 1 ∧ ∃ (f3 f4 : Nat → Int32) (md1 : Nat) (fu1 : Bool), v = some (.int (nI 0)) ∧ w1 = [(hm, .inr (6, [.int (nI 1), .int (zb mb), .int (zb ak), .int (nI cnt), .int (nI k), .ref (e 0), .int (nI nl), .ref (e 1), .int (nI n), .ref (e 2), .int (nI m), .int (nI md1), .ref (e 3), .ref (e 4), .int (zb fu1), .ref (e 5)])), (e 0, .inl (X.cI, 240, .inl (M 0))), (e 1, .inl (X.cI, 40, .inl (M 1))), (e 2, .inl (X.cI, 4200, .inl (M 2))), (e 3, .inl (X.cI, 4207, .inl f3)), (e 4, .inl (X.cI, 2048, .inl f4)), (e 5, .inl (X.cI, 600, .inl (M 5)))]) ∨ (cdRun nl (M 1) (axSz mb ak cnt) GL = 0 ∧ ∃ (f2 f3 f4 : Nat → Int32) (n1 : Nat) (fu1 : Bool), cloRep f2 n1 (runS nl (M 1) (axSz mb ak cnt) GL).1.1 ∧ v = some (.int (runS nl (M 1) (axSz mb ak cnt) GL).2) ∧ w1 = [(hm, .inr (6, [.int (nI 0), .int (zb mb), .int (zb ak), .int (nI cnt), .int (nI k), .ref (e 0), .int (nI nl), .ref (e 1), .int (nI n1), .ref (e 2), .int (nI (memN mb ak cnt)), .int (nI n1), .ref (e 3), .ref (e 4), .int (zb fu1), .ref (e 5)])), (e 0, .inl (X.cI, 240, .inl (M 0))), (e 1, .inl (X.cI, 40, .inl (M 1))), (e 2, .inl (X.cI, 4200, .inl f2)), (e 3, .inl (X.cI, 4207, .inl f3)), (e 4, .inl (X.cI, 2048, .inl f4)), (e 5, .inl (X.cI, 600, .inl (M 5)))]))) : ∀ (z : Nat) (i : Nat) (f3 f4 : Nat → Int32) (md : Nat) (fu : Bool), i ≤ n0 → n0 < i + z → mRep f3 f4 md fu (pairsN nl L r (nI (rr + 1)) Sr i) → zW X 7 [(hm, .inr (6, [.int (nI 0), .int (zb mb), .int (zb ak), .int (nI cnt), .int (nI k), .ref (e 0), .int (nI nl), .ref (e 1), .int (nI n), .ref (e 2), .int (nI m), .int (nI md), .ref (e 3), .ref (e 4), .int (zb fu), .ref (e 5)])), (e 0, .inl (X.cI, 240, .inl (M 0))), (e 1, .inl (X.cI, 40, .inl (M 1))), (e 2, .inl (X.cI, 4200, .inl (M 2))), (e 3, .inl (X.cI, 4207, .inl f3)), (e 4, .inl (X.cI, 2048, .inl f4)), (e 5, .inl (X.cI, 600, .inl (M 5)))] 0 0 186 [(0, .ref hm), (1, .int (nI rr)), (2, .int (nI n0)), (3, .int (nI r)), (4, .int (firstP r)), (5, .int (nI i))] [] := by
  have hiX6 : ∀ w ∈ u_ws RX6 TX6 16, w ∈ wsX6_run := by decide +kernel
  have hf23 : Cond.fieldLink RX6 23 "RdfsRulesModel" "fresh" "[I" ∈ wsX6_run := by decide +kernel
  have hf85 : Cond.fieldLink RX6 85 "RdfsRulesModel" "full" "Z" ∈ wsX6_run := by decide +kernel
  intro z
  induction z with
  | zero =>
    intro i f3 f4 md fu hi hz hR
    exfalso
    omega
  | succ z ih =>
    intro i f3 f4 md fu hi hz hR
    have hst := hSr.tr (pairsN_mono (nl := nl) (L := L) (rule := r) (rd := nI (rr + 1)) Sr 0 i (Nat.zero_le _))
    have hle : n0 ≤ md := by rw [← hL, ← hR.1]; exact hst.len
    have hn6 := hR.2.1
    refine z_iload (q := 188) C 5 rfl dX6_run_186 rfl ?_
    refine z_iload_n (q := 189) C 2 rfl rfl dX6_run_188 rfl ?_
    refine z_icmp_ge_n (q := 192) (tgt := 267) C (by omega) (by omega) dX6_run_189 (by decide) rfl (fun c189 => ?_) (fun c189 => ?_)
    · skip
      refine z_lv [0, 1, 2, 3] rfl ?_
      obtain rfl : i = n0 := by omega
      exact hnext f3 f4 md fu hR
    · skip
      refine z_aload_n (q := 193) C 0 rfl rfl dX6_run_192 rfl ?_
      refine z_get (q := 196) (v := .int (zb fu)) C hiX6 0 14 rfl rfl (by decide) hf85 rfl dX6_run_193 rfl ?_
      refine z_if_ne_b (q := 199) (tgt := 267) C dX6_run_196 (by decide) rfl (fun c196 => ?_) (fun c196 => ?_)
      · skip
        refine z_lv [0, 1, 2, 3] rfl ?_
        exact hnext f3 f4 md fu (by rw [(pairsN_mono (nl := nl) (L := L) (rule := r) (rd := nI (rr + 1)) Sr i n0 (by omega)).2 (by rw [hR.2.2.1]; exact c196)]; exact hR)
      · skip
        refine z_iload (q := 201) C 4 rfl dX6_run_199 rfl ?_
        refine z_if_ge_i (q := 204) (tgt := 217) C rfl dX6_run_201 (by decide) rfl (fun c201 => ?_) (fun c201 => ?_)
        · skip
          refine z_aload_n (q := 218) C 0 rfl rfl dX6_run_217 rfl ?_
          refine z_get (q := 221) (v := .ref (e 3)) C hiX6 0 12 rfl rfl (by decide) hf23 rfl dX6_run_218 rfl ?_
          refine z_bipush (q := 223) C k_bipush_7 dX6_run_221 rfl ?_
          refine z_iload (q := 225) C 5 rfl dX6_run_223 rfl ?_
          refine z_imul (q := 226) C dX6_run_225 rfl ?_
          refine z_eqi (y := nI (7 * i)) (pk_mul 7 i) ?_
          refine z_iconst (q := 227) C k_iconst_1 dX6_run_226 rfl ?_
          refine z_iadd (q := 228) C dX6_run_227 rfl ?_
          refine z_eqi (y := nI ((7 * i) + 1)) (nI_add (7 * i) 1) ?_
          refine z_iald (q := 229) C 4 rfl (i := (7 * i) + 1) (by omega) (by decide) dX6_run_228 rfl ?_
          refine z_iload (q := 231) C 4 rfl dX6_run_229 rfl ?_
          refine z_icmp_ne (q := 234) (tgt := 261) C dX6_run_231 (by decide) rfl (fun c231 => ?_) (fun c231 => ?_)
          · skip
            refine z_iinc (q := 264) (v := nI (i + 1)) (lv' := [(5, .int (nI (i + 1))), (0, .ref hm), (1, .int (nI rr)), (2, .int (nI n0)), (3, .int (nI r)), (4, .int (firstP r))]) C 5 dX6_run_261 rfl rfl (k_inc1 i) (by decide) rfl ?_
            refine z_goto (tgt := 186) C dX6_run_264 (by decide) ?_
            refine z_lv [1, 2, 3, 4, 5, 0] rfl ?_
            exact ih (i + 1) f3 f4 md fu (by omega) (by omega) (by rw [show pairsN nl L r (nI (rr + 1)) Sr (i + 1) = pairsN nl L r (nI (rr + 1)) Sr i from if_neg (fun z => c231 (by rw [← z]; exact hR.row hst (i := i) (j := 1) (by omega) (by omega)))]; exact hR)
          · skip
            refine z_iconst (q := 235) C k_iconst_0 dX6_run_234 rfl ?_
            refine z_istore (q := 237) (lv' := [(6, .int (nI 0)), (0, .ref hm), (1, .int (nI rr)), (2, .int (nI n0)), (3, .int (nI r)), (4, .int (firstP r)), (5, .int (nI i))]) C dX6_run_235 rfl (by decide) rfl ?_
            refine z_lv [1, 2, 3, 4, 5, 6, 0] rfl ?_
            have hpi : L.getD i r0 1 = firstP r := by rw [← c231]; exact (hR.row hst (i := i) (j := 1) (by omega) (by omega)).symm
            have hpe : pairsN nl L r (nI (rr + 1)) Sr (i + 1) = pairN nl L r (nI (rr + 1)) i (pairsN nl L r (nI (rr + 1)) Sr i) n0 := by rw [← hL]; exact if_pos hpi
            refine l_X6_run_k hm e M mb ak cnt k nl n m hnl hcn GL hG hf L n0 hL hn0 hTL rr hrr r hr hfp i (by omega) (pairsN nl L r (nI (rr + 1)) Sr i) hst (pairsN_tok hTL hTS i (by omega)) (fun f3 f4 md fu hR => ?_) C E (n0 + 1) 0 f3 f4 md fu (by omega) (by omega) hR
            refine z_iinc (q := 264) (v := nI (i + 1)) (lv' := [(5, .int (nI (i + 1))), (0, .ref hm), (1, .int (nI rr)), (2, .int (nI n0)), (3, .int (nI r)), (4, .int (firstP r))]) C 5 dX6_run_261 rfl rfl (k_inc1 i) (by decide) rfl ?_
            refine z_goto (tgt := 186) C dX6_run_264 (by decide) ?_
            refine z_lv [1, 2, 3, 4, 5, 0] rfl ?_
            exact ih (i + 1) f3 f4 md fu (by omega) (by omega) (by rw [hpe]; exact hR)
        · skip
          exact absurd c201 (by have := firstP_ge hfp; omega)

set_option maxHeartbeats 4000000 in
set_option maxRecDepth 100000 in
theorem l_X6_run_r {X : zX} (hm : Nat) (e : Nat → Nat) (M : Nat → Nat → Int32) (mb ak : Bool) (cnt k nl n m : Nat) (hnl : nl ≤ 40) (hcn : cnt ≤ 9) (GL : List Row) (hG : mgRep (M 0) k GL) (hf : ∀ j, j < nl → tok nl (M 1 j)) (L : List Row) (n0 : Nat) (hL : L.length = n0) (hn0 : n0 ≤ 600) (hTL : TOK nl L) (rr : Nat) (hrr : rr ≤ 600) (hnext : ∀ (f3 f4 : Nat → Int32) (md : Nat) (fu : Bool), mRep f3 f4 md fu (roundN nl (M 1) L (nI (rr + 1)) 14) → zW X 7 [(hm, .inr (6, [.int (nI 0), .int (zb mb), .int (zb ak), .int (nI cnt), .int (nI k), .ref (e 0), .int (nI nl), .ref (e 1), .int (nI n), .ref (e 2), .int (nI m), .int (nI md), .ref (e 3), .ref (e 4), .int (zb fu), .ref (e 5)])), (e 0, .inl (X.cI, 240, .inl (M 0))), (e 1, .inl (X.cI, 40, .inl (M 1))), (e 2, .inl (X.cI, 4200, .inl (M 2))), (e 3, .inl (X.cI, 4207, .inl f3)), (e 4, .inl (X.cI, 2048, .inl f4)), (e 5, .inl (X.cI, 600, .inl (M 5)))] 0 0 273 [(0, .ref hm), (1, .int (nI rr)), (2, .int (nI n0))] []) (C : zC X cX6_run 7 RX6 wsX6_run ({ frames := 3, cells := 0, slots := 0, locals := 82 } : Room)) (E : zE X (some .int) 0 0 (fun v w1 => (cdRun nl (M 1) (axSz mb ak cnt) GL = 1 ∧ ∃ (f3 f4 : Nat → Int32) (md1 : Nat) (fu1 : Bool), v = some (.int (nI 0)) ∧ w1 = [(hm, .inr (6, [.int (nI 1), .int (zb mb), .int (zb ak), .int (nI cnt), .int (nI k), .ref (e 0), .int (nI nl), .ref (e 1), .int (nI n), .ref (e 2), .int (nI m), .int (nI md1), .ref (e 3), .ref (e 4), .int (zb fu1), .ref (e 5)])), (e 0, .inl (X.cI, 240, .inl (M 0))), (e 1, .inl (X.cI, 40, .inl (M 1))), (e 2, .inl (X.cI, 4200, .inl (M 2))), (e 3, .inl (X.cI, 4207, .inl f3)), (e 4, .inl (X.cI, 2048, .inl f4)), (e 5, .inl (X.cI, 600, .inl (M 5)))]) ∨ (cdRun nl (M 1) (axSz mb ak cnt) GL = 0 ∧ ∃ (f2 f3 f4 : Nat → Int32) (n1 : Nat) (fu1 : Bool), cloRep f2 n1 (runS nl (M 1) (axSz mb ak cnt) GL).1.1 ∧ v = some (.int (runS nl (M 1) (axSz mb ak cnt) GL).2) ∧ w1 = [(hm, .inr (6, [.int (nI 0), .int (zb mb), .int (zb ak), .int (nI cnt), .int (nI k), .ref (e 0), .int (nI nl), .ref (e 1), .int (nI n1), .ref (e 2), .int (nI (memN mb ak cnt)), .int (nI n1), .ref (e 3), .ref (e 4), .int (zb fu1), .ref (e 5)])), (e 0, .inl (X.cI, 240, .inl (M 0))), (e 1, .inl (X.cI, 40, .inl (M 1))), (e 2, .inl (X.cI, 4200, .inl f2)), (e 3, .inl (X.cI, 4207, .inl f3)), (e 4, .inl (X.cI, 2048, .inl f4)), (e 5, .inl (X.cI, 600, .inl (M 5)))]))) : ∀ (z : Nat) (r : Nat) (f3 f4 : Nat → Int32) (md : Nat) (fu : Bool), r ≤ 14 → 14 < r + z → mRep f3 f4 md fu (roundN nl (M 1) L (nI (rr + 1)) r) → zW X 7 [(hm, .inr (6, [.int (nI 0), .int (zb mb), .int (zb ak), .int (nI cnt), .int (nI k), .ref (e 0), .int (nI nl), .ref (e 1), .int (nI n), .ref (e 2), .int (nI m), .int (nI md), .ref (e 3), .ref (e 4), .int (zb fu), .ref (e 5)])), (e 0, .inl (X.cI, 240, .inl (M 0))), (e 1, .inl (X.cI, 40, .inl (M 1))), (e 2, .inl (X.cI, 4200, .inl (M 2))), (e 3, .inl (X.cI, 4207, .inl f3)), (e 4, .inl (X.cI, 2048, .inl f4)), (e 5, .inl (X.cI, 600, .inl (M 5)))] 0 0 171 [(0, .ref hm), (1, .int (nI rr)), (2, .int (nI n0)), (3, .int (nI r))] [] := by
  intro z
  induction z with
  | zero =>
    intro r f3 f4 md fu hr14 hz hR
    exfalso
    omega
  | succ z ih =>
    intro r f3 f4 md fu hr14 hz hR
    have hn6 := hR.2.1
    refine z_iload_n (q := 172) C 3 rfl rfl dX6_run_171 rfl ?_
    refine z_bipush (q := 174) C k_bipush_14 dX6_run_172 rfl ?_
    refine z_icmp_ge_n (q := 177) (tgt := 273) C (by omega) (by omega) dX6_run_174 (by decide) rfl (fun c174 => ?_) (fun c174 => ?_)
    · skip
      refine z_lv [0, 1, 2] rfl ?_
      obtain rfl : r = 14 := by omega
      exact hnext f3 f4 md fu hR
    · skip
      refine z_iload_n (q := 178) C 3 rfl rfl dX6_run_177 rfl ?_
      refine z_callS (q := 181) (n := 1) (As := [.int (nI r)]) (rest := []) (wr := [(hm, .inr (6, [.int (nI 0), .int (zb mb), .int (zb ak), .int (nI cnt), .int (nI k), .ref (e 0), .int (nI nl), .ref (e 1), .int (nI n), .ref (e 2), .int (nI m), .int (nI md), .ref (e 3), .ref (e 4), .int (zb fu), .ref (e 5)])), (e 0, .inl (X.cI, 240, .inl (M 0))), (e 1, .inl (X.cI, 40, .inl (M 1))), (e 2, .inl (X.cI, 4200, .inl (M 2))), (e 3, .inl (X.cI, 4207, .inl f3)), (e 4, .inl (X.cI, 2048, .inl f4)), (e 5, .inl (X.cI, 600, .inl (M 5)))]) C (c_X6_firstOf X.l X.D X.2.1 r (by omega)) gX6_run_X6_firstOf rfl rfl rfl (by decide +kernel) (by decide) ⟨by first | decide | omega, by first | decide | omega⟩ [] [0, 1, 2, 3, 4, 5, 6] rfl rfl (by decide) (by decide) (by decide) rfl rfl (Nat.le_of_ble_eq_true rfl) dX6_run_178 rfl (fun v w1 hp => ?_)
      obtain ⟨rfl, rfl⟩ := hp
      show zW X 7 [(hm, .inr (6, [.int (nI 0), .int (zb mb), .int (zb ak), .int (nI cnt), .int (nI k), .ref (e 0), .int (nI nl), .ref (e 1), .int (nI n), .ref (e 2), .int (nI m), .int (nI md), .ref (e 3), .ref (e 4), .int (zb fu), .ref (e 5)])), (e 0, .inl (X.cI, 240, .inl (M 0))), (e 1, .inl (X.cI, 40, .inl (M 1))), (e 2, .inl (X.cI, 4200, .inl (M 2))), (e 3, .inl (X.cI, 4207, .inl f3)), (e 4, .inl (X.cI, 2048, .inl f4)), (e 5, .inl (X.cI, 600, .inl (M 5)))] _ _ 181 _ [.int (firstP r)]
      refine z_istore (q := 183) (lv' := [(4, .int (firstP r)), (0, .ref hm), (1, .int (nI rr)), (2, .int (nI n0)), (3, .int (nI r))]) C dX6_run_181 rfl (by decide) rfl ?_
      refine z_iconst (q := 184) C k_iconst_0 dX6_run_183 rfl ?_
      refine z_istore (q := 186) (lv' := [(5, .int (nI 0)), (4, .int (firstP r)), (0, .ref hm), (1, .int (nI rr)), (2, .int (nI n0)), (3, .int (nI r))]) C dX6_run_184 rfl (by decide) rfl ?_
      refine z_lv [2, 3, 4, 5, 1, 0] rfl ?_
      by_cases hfp : firstP r = (-1)
      · skip
        refine l_X6_run_s hm e M mb ak cnt k nl n m hnl hcn GL hG hf L n0 hL hn0 hTL rr hrr r (by omega) hfp (roundN nl (M 1) L (nI (rr + 1)) r) (roundN_mono 0 r (by omega)) (roundN_tok hf hTL r) (fun f3 f4 md fu hR => ?_) C E (n0 + 1) 0 f3 f4 md fu (by omega) (by omega) hR
        refine z_iinc (q := 270) (v := nI (r + 1)) (lv' := [(3, .int (nI (r + 1))), (0, .ref hm), (1, .int (nI rr)), (2, .int (nI n0))]) C 3 dX6_run_267 rfl rfl (k_inc1 r) (by decide) rfl ?_
        refine z_goto (tgt := 171) C dX6_run_270 (by decide) ?_
        refine z_lv [1, 2, 3, 0] rfl ?_
        exact ih (r + 1) f3 f4 md fu (by omega) (by omega) (by show mRep f3 f4 md fu (ruleS _ _ _ _ _ _); unfold ruleS; rw [if_pos hfp, hL]; exact hR)
      · skip
        refine l_X6_run_p hm e M mb ak cnt k nl n m hnl hcn GL hG hf L n0 hL hn0 hTL rr hrr r (by omega) hfp (roundN nl (M 1) L (nI (rr + 1)) r) (roundN_mono 0 r (by omega)) (roundN_tok hf hTL r) (fun f3 f4 md fu hR => ?_) C E (n0 + 1) 0 f3 f4 md fu (by omega) (by omega) hR
        refine z_iinc (q := 270) (v := nI (r + 1)) (lv' := [(3, .int (nI (r + 1))), (0, .ref hm), (1, .int (nI rr)), (2, .int (nI n0))]) C 3 dX6_run_267 rfl rfl (k_inc1 r) (by decide) rfl ?_
        refine z_goto (tgt := 171) C dX6_run_270 (by decide) ?_
        refine z_lv [1, 2, 3, 0] rfl ?_
        exact ih (r + 1) f3 f4 md fu (by omega) (by omega) (by show mRep f3 f4 md fu (ruleS _ _ _ _ _ _); unfold ruleS; rw [if_neg hfp, hL]; exact hR)

set_option maxHeartbeats 4000000 in
set_option maxRecDepth 100000 in
theorem l_X6_run_o {X : zX} (hm : Nat) (e : Nat → Nat) (M : Nat → Nat → Int32) (mb ak : Bool) (cnt k nl n m : Nat) (hnl : nl ≤ 40) (hcn : cnt ≤ 9) (GL : List Row) (hG : mgRep (M 0) k GL) (hf : ∀ j, j < nl → tok nl (M 1 j)) (C : zC X cX6_run 7 RX6 wsX6_run ({ frames := 3, cells := 0, slots := 0, locals := 82 } : Room)) (E : zE X (some .int) 0 0 (fun v w1 => (cdRun nl (M 1) (axSz mb ak cnt) GL = 1 ∧ ∃ (f3 f4 : Nat → Int32) (md1 : Nat) (fu1 : Bool), v = some (.int (nI 0)) ∧ w1 = [(hm, .inr (6, [.int (nI 1), .int (zb mb), .int (zb ak), .int (nI cnt), .int (nI k), .ref (e 0), .int (nI nl), .ref (e 1), .int (nI n), .ref (e 2), .int (nI m), .int (nI md1), .ref (e 3), .ref (e 4), .int (zb fu1), .ref (e 5)])), (e 0, .inl (X.cI, 240, .inl (M 0))), (e 1, .inl (X.cI, 40, .inl (M 1))), (e 2, .inl (X.cI, 4200, .inl (M 2))), (e 3, .inl (X.cI, 4207, .inl f3)), (e 4, .inl (X.cI, 2048, .inl f4)), (e 5, .inl (X.cI, 600, .inl (M 5)))]) ∨ (cdRun nl (M 1) (axSz mb ak cnt) GL = 0 ∧ ∃ (f2 f3 f4 : Nat → Int32) (n1 : Nat) (fu1 : Bool), cloRep f2 n1 (runS nl (M 1) (axSz mb ak cnt) GL).1.1 ∧ v = some (.int (runS nl (M 1) (axSz mb ak cnt) GL).2) ∧ w1 = [(hm, .inr (6, [.int (nI 0), .int (zb mb), .int (zb ak), .int (nI cnt), .int (nI k), .ref (e 0), .int (nI nl), .ref (e 1), .int (nI n1), .ref (e 2), .int (nI (memN mb ak cnt)), .int (nI n1), .ref (e 3), .ref (e 4), .int (zb fu1), .ref (e 5)])), (e 0, .inl (X.cI, 240, .inl (M 0))), (e 1, .inl (X.cI, 40, .inl (M 1))), (e 2, .inl (X.cI, 4200, .inl f2)), (e 3, .inl (X.cI, 4207, .inl f3)), (e 4, .inl (X.cI, 2048, .inl f4)), (e 5, .inl (X.cI, 600, .inl (M 5)))]))) : ∀ (z : Nat) (rr : Nat) (L : List Row) (f3 f4 : Nat → Int32) (md : Nat) (bf : Int32), rr ≤ 600 → 600 < rr + z → mRep f3 f4 md false (L, false) → TOK nl L → rr ≤ L.length → closeN nl (M 1) (601 - rr) rr L = runS nl (M 1) (axSz mb ak cnt) GL → zW X 7 [(hm, .inr (6, [.int (nI 0), .int (zb mb), .int (zb ak), .int (nI cnt), .int (nI k), .ref (e 0), .int (nI nl), .ref (e 1), .int (nI n), .ref (e 2), .int (nI m), .int (nI md), .ref (e 3), .ref (e 4), .int (zb false), .ref (e 5)])), (e 0, .inl (X.cI, 240, .inl (M 0))), (e 1, .inl (X.cI, 40, .inl (M 1))), (e 2, .inl (X.cI, 4200, .inl (M 2))), (e 3, .inl (X.cI, 4207, .inl f3)), (e 4, .inl (X.cI, 2048, .inl f4)), (e 5, .inl (X.cI, 600, .inl (M 5)))] 0 0 164 [(0, .ref hm), (1, .int (nI rr)), (2, .int bf)] [] := by
  have hiX6 : ∀ w ∈ u_ws RX6 TX6 16, w ∈ wsX6_run := by decide +kernel
  have hf85 : Cond.fieldLink RX6 85 "RdfsRulesModel" "full" "Z" ∈ wsX6_run := by decide +kernel
  have hf91 : Cond.fieldLink RX6 91 "RdfsRulesModel" "made" "I" ∈ wsX6_run := by decide +kernel
  intro z
  induction z with
  | zero =>
    intro rr L f3 f4 md bf hrr hz hR hTL hrl hfin
    exfalso
    omega
  | succ z ih =>
    intro rr L f3 f4 md bf hrr hz hR hTL hrl hfin
    have hn6 := hR.2.1
    have hn1 : L.length = md := hR.1
    refine z_aload_n (q := 165) C 0 rfl rfl dX6_run_164 rfl ?_
    refine z_get (q := 168) (v := .int (nI md)) C hiX6 0 11 rfl rfl (by decide) hf91 rfl dX6_run_165 rfl ?_
    refine z_istore_n (q := 169) (lv' := [(2, .int (nI md)), (0, .ref hm), (1, .int (nI rr))]) C rfl dX6_run_168 rfl (by decide) rfl ?_
    refine z_iconst (q := 170) C k_iconst_0 dX6_run_169 rfl ?_
    refine z_istore_n (q := 171) (lv' := [(3, .int (nI 0)), (2, .int (nI md)), (0, .ref hm), (1, .int (nI rr))]) C rfl dX6_run_170 rfl (by decide) rfl ?_
    refine z_lv [2, 3, 1, 0] rfl ?_
    refine l_X6_run_r hm e M mb ak cnt k nl n m hnl hcn GL hG hf L md hR.1 hR.2.1 hTL rr (by omega) (fun f5 f6 md9 fu9 hR9 => ?_) C E 15 0 f3 f4 md false (by omega) (by omega) hR
    have hn96 := hR9.2.1
    have hln : md ≤ md9 := by rw [← show L.length = md from hR.1, ← hR9.1]; exact (roundN_mono (nl := nl) (f := M 1) (L := L) (rd := nI (rr + 1)) 0 14 (by omega)).len
    obtain ⟨t9, ht9⟩ : ∃ t9, 601 - rr = t9 + 1 := ⟨600 - rr, by omega⟩
    rw [ht9] at hfin
    refine z_iload_n (q := 274) C 1 rfl rfl dX6_run_273 rfl ?_
    refine z_aload_n (q := 275) C 0 rfl rfl dX6_run_274 rfl ?_
    refine z_get (q := 278) (v := .int (nI md9)) C hiX6 0 11 rfl rfl (by decide) hf91 rfl dX6_run_275 rfl ?_
    refine z_iload_n (q := 279) C 2 rfl rfl dX6_run_278 rfl ?_
    refine z_icmp_le_n (q := 282) (tgt := 286) C (by omega) (by omega) dX6_run_279 (by decide) rfl (fun c279 => ?_) (fun c279 => ?_)
    · skip
      refine z_iconst (q := 287) C k_iconst_0 dX6_run_286 rfl ?_
      refine z_iadd (q := 288) C dX6_run_287 rfl ?_
      refine z_eqi (y := nI (rr + 0)) (nI_add rr 0) ?_
      refine z_eqi (y := nI rr) (congrArg nI (by omega)) ?_
      refine z_istore_n (q := 289) (lv' := [(1, .int (nI rr)), (0, .ref hm), (2, .int (nI md))]) C rfl dX6_run_288 rfl (by decide) rfl ?_
      refine z_goto (tgt := 149) C dX6_run_289 (by decide) ?_
      refine z_iload_n (q := 150) C 2 rfl rfl dX6_run_149 rfl ?_
      refine z_aload_n (q := 151) C 1 rfl rfl dX6_run_150 rfl ?_
      refine z_get (q := 154) (v := .int (nI md9)) C hiX6 0 11 rfl rfl (by decide) hf91 rfl dX6_run_151 rfl ?_
      refine z_icmp_eq_n (q := 157) (tgt := 292) C (by omega) (by omega) dX6_run_154 (by decide) rfl (fun c154 => ?_) (fun c154 => ?_)
      · skip
        refine z_lv [1, 0] rfl ?_
        cases hfu9 : fu9 with
        | true =>
          rw [hfu9] at hR9
          rw [closeN_full hR9.2.2.1] at hfin
          exact l_X6_run_t hm e M mb ak cnt k nl n m hnl hcn GL hG f5 f6 md9 true (nI rr) (by rw [← hfin]; exact hR9) (by rw [← hfin]; exact ⟨fun _ => rfl, fun _ => rfl⟩) (fun z => by cases z) C E
        | false =>
          rw [hfu9] at hR9
          rw [closeN_end hR9.2.2.1 (by rw [hR9.1, show L.length = md from hR.1]; exact c154.symm)] at hfin
          exact l_X6_run_t hm e M mb ak cnt k nl n m hnl hcn GL hG f5 f6 md9 false (nI rr) (by rw [← hfin]; exact hR9) (by rw [← hfin]; exact ⟨(fun z9 => absurd z9 (by decide)), fun z9 => absurd z9 (nI_nm1 (by omega))⟩) (fun _ => by rw [← hfin]) C E
      · skip
        exact absurd c154 (by omega)
    · skip
      refine z_iconst (q := 283) C k_iconst_1 dX6_run_282 rfl ?_
      refine z_goto (tgt := 287) C dX6_run_283 (by decide) ?_
      refine z_iadd (q := 288) C dX6_run_287 rfl ?_
      refine z_eqi (y := nI (rr + 1)) (nI_add rr 1) ?_
      refine z_eqi (y := nI (rr + 1)) (congrArg nI (by omega)) ?_
      refine z_istore_n (q := 289) (lv' := [(1, .int (nI (rr + 1))), (0, .ref hm), (2, .int (nI md))]) C rfl dX6_run_288 rfl (by decide) rfl ?_
      refine z_goto (tgt := 149) C dX6_run_289 (by decide) ?_
      refine z_iload_n (q := 150) C 2 rfl rfl dX6_run_149 rfl ?_
      refine z_aload_n (q := 151) C 1 rfl rfl dX6_run_150 rfl ?_
      refine z_get (q := 154) (v := .int (nI md9)) C hiX6 0 11 rfl rfl (by decide) hf91 rfl dX6_run_151 rfl ?_
      refine z_icmp_eq_n (q := 157) (tgt := 292) C (by omega) (by omega) dX6_run_154 (by decide) rfl (fun c154 => ?_) (fun c154 => ?_)
      · skip
        exact absurd c154 (by omega)
      · skip
        refine z_aload_n (q := 158) C 1 rfl rfl dX6_run_157 rfl ?_
        refine z_get (q := 161) (v := .int (zb fu9)) C hiX6 0 14 rfl rfl (by decide) hf85 rfl dX6_run_158 rfl ?_
        refine z_if_ne_b (q := 164) (tgt := 292) C dX6_run_161 (by decide) rfl (fun c161 => ?_) (fun c161 => ?_)
        · skip
          refine z_lv [1, 0] rfl ?_
          rw [closeN_full (by rw [hR9.2.2.1]; exact c161)] at hfin
          exact l_X6_run_t hm e M mb ak cnt k nl n m hnl hcn GL hG f5 f6 md9 fu9 (nI (rr + 1)) (by rw [← hfin]; exact hR9) (by rw [← hfin]; exact ⟨fun _ => rfl, fun _ => c161⟩) (fun z => by rw [c161] at z; cases z) C E
        · skip
          refine z_lv [1, 0, 2] rfl ?_
          rw [closeN_on (by rw [hR9.2.2.1]; exact c161) (by rw [hR9.1, show L.length = md from hR.1]; omega)] at hfin
          have hS9 : roundN nl (M 1) L (nI (rr + 1)) 14 = ((roundN nl (M 1) L (nI (rr + 1)) 14).1, false) := Prod.ext rfl (by rw [hR9.2.2.1]; exact c161)
          have hL9 := hR9.1
          rw [c161] at hR9
          rw [hS9] at hR9
          rw [c161]
          exact ih (rr + 1) (roundN nl (M 1) L (nI (rr + 1)) 14).1 f5 f6 md9 _ (by omega) (by omega) hR9 (roundN_tok hf hTL 14) (by rw [hL9]; have := hR.1; omega) (by rw [← hfin, show 601 - (rr + 1) = t9 by omega])

theorem axN_tok (nl : Nat) : ∀ i, i ≤ 42 → TOK nl (axN ([], false) i).1
  | 0, _ => fun i j hi => absurd hi (Nat.not_lt_zero i)
  | i + 1, h => by
    have key : ∀ q, q < 42 → (axS q).toInt.toNat < 300 ∧ 0 ≤ (axS q).toInt ∧ (axP q).toInt.toNat < 300 ∧ 0 ≤ (axP q).toInt ∧ (axO q).toInt.toNat < 300 ∧ 0 ≤ (axO q).toInt := by decide +kernel
    have mk : ∀ x : Int32, x.toInt.toNat < 300 → 0 ≤ x.toInt → tok nl x := fun x h1 h2 => by
      obtain ⟨j, hj, e⟩ := i_of (x := x) 300 h2 (by omega)
      subst e
      rw [nI_tn (by omega)] at h1
      exact ⟨j, by omega, rfl⟩
    obtain ⟨k1, k2, k3, k4, k5, k6⟩ := key i (by omega)
    exact (axN_tok nl i (by omega)).add (mk _ k1 k2) (mk _ k3 k4) (mk _ k5 k6)
theorem givN_tok {nl : Nat} {GL : List Row} (hG : TOK nl GL) {S : RSt} (hS : TOK nl S.1) : ∀ i, i ≤ GL.length → TOK nl (givN GL S i).1
  | 0, _ => hS
  | i + 1, h => (givN_tok hG hS i (by omega)).add (hG i 0 (by omega) (by omega)) (hG i 1 (by omega) (by omega)) (hG i 2 (by omega) (by omega))

set_option maxHeartbeats 4000000 in
set_option maxRecDepth 100000 in
theorem l_X6_run_g {X : zX} (hm : Nat) (e : Nat → Nat) (M : Nat → Nat → Int32) (mb ak : Bool) (cnt k nl n m : Nat) (hnl : nl ≤ 40) (hcn : cnt ≤ 9) (GL : List Row) (hG : mgRep (M 0) k GL) (hf : ∀ j, j < nl → tok nl (M 1 j)) (hTG : TOK nl GL) (C : zC X cX6_run 7 RX6 wsX6_run ({ frames := 3, cells := 0, slots := 0, locals := 82 } : Room)) (E : zE X (some .int) 0 0 (fun v w1 => (cdRun nl (M 1) (axSz mb ak cnt) GL = 1 ∧ ∃ (f3 f4 : Nat → Int32) (md1 : Nat) (fu1 : Bool), v = some (.int (nI 0)) ∧ w1 = [(hm, .inr (6, [.int (nI 1), .int (zb mb), .int (zb ak), .int (nI cnt), .int (nI k), .ref (e 0), .int (nI nl), .ref (e 1), .int (nI n), .ref (e 2), .int (nI m), .int (nI md1), .ref (e 3), .ref (e 4), .int (zb fu1), .ref (e 5)])), (e 0, .inl (X.cI, 240, .inl (M 0))), (e 1, .inl (X.cI, 40, .inl (M 1))), (e 2, .inl (X.cI, 4200, .inl (M 2))), (e 3, .inl (X.cI, 4207, .inl f3)), (e 4, .inl (X.cI, 2048, .inl f4)), (e 5, .inl (X.cI, 600, .inl (M 5)))]) ∨ (cdRun nl (M 1) (axSz mb ak cnt) GL = 0 ∧ ∃ (f2 f3 f4 : Nat → Int32) (n1 : Nat) (fu1 : Bool), cloRep f2 n1 (runS nl (M 1) (axSz mb ak cnt) GL).1.1 ∧ v = some (.int (runS nl (M 1) (axSz mb ak cnt) GL).2) ∧ w1 = [(hm, .inr (6, [.int (nI 0), .int (zb mb), .int (zb ak), .int (nI cnt), .int (nI k), .ref (e 0), .int (nI nl), .ref (e 1), .int (nI n1), .ref (e 2), .int (nI (memN mb ak cnt)), .int (nI n1), .ref (e 3), .ref (e 4), .int (zb fu1), .ref (e 5)])), (e 0, .inl (X.cI, 240, .inl (M 0))), (e 1, .inl (X.cI, 40, .inl (M 1))), (e 2, .inl (X.cI, 4200, .inl f2)), (e 3, .inl (X.cI, 4207, .inl f3)), (e 4, .inl (X.cI, 2048, .inl f4)), (e 5, .inl (X.cI, 600, .inl (M 5)))]))) : ∀ (z : Nat) (i : Nat) (f3 f4 : Nat → Int32) (md : Nat) (fu : Bool), i ≤ k → k < i + z → mRep f3 f4 md fu (givN GL (axN ([], false) (axSz mb ak cnt)) i) → zW X 7 [(hm, .inr (6, [.int (nI 0), .int (zb mb), .int (zb ak), .int (nI cnt), .int (nI k), .ref (e 0), .int (nI nl), .ref (e 1), .int (nI n), .ref (e 2), .int (nI m), .int (nI md), .ref (e 3), .ref (e 4), .int (zb fu), .ref (e 5)])), (e 0, .inl (X.cI, 240, .inl (M 0))), (e 1, .inl (X.cI, 40, .inl (M 1))), (e 2, .inl (X.cI, 4200, .inl (M 2))), (e 3, .inl (X.cI, 4207, .inl f3)), (e 4, .inl (X.cI, 2048, .inl f4)), (e 5, .inl (X.cI, 600, .inl (M 5)))] 0 0 95 [(0, .ref hm), (1, .int (nI i))] [] := by
  have hiX6 : ∀ w ∈ u_ws RX6 TX6 16, w ∈ wsX6_run := by decide +kernel
  have hf13 : Cond.fieldLink RX6 13 "RdfsRulesModel" "facts" "[I" ∈ wsX6_run := by decide +kernel
  have hf49 : Cond.fieldLink RX6 49 "RdfsRulesModel" "given" "I" ∈ wsX6_run := by decide +kernel
  have hf85 : Cond.fieldLink RX6 85 "RdfsRulesModel" "full" "Z" ∈ wsX6_run := by decide +kernel
  have hf91 : Cond.fieldLink RX6 91 "RdfsRulesModel" "made" "I" ∈ wsX6_run := by decide +kernel
  intro z
  induction z with
  | zero =>
    intro i f3 f4 md fu hi hz hR
    exfalso
    omega
  | succ z ih =>
    intro i f3 f4 md fu hi hz hR
    have hk8 := hG.le
    have hn6 := hR.2.1
    refine z_iload_n (q := 96) C 1 rfl rfl dX6_run_95 rfl ?_
    refine z_aload_n (q := 97) C 0 rfl rfl dX6_run_96 rfl ?_
    refine z_get (q := 100) (v := .int (nI k)) C hiX6 0 4 rfl rfl (by decide) hf49 rfl dX6_run_97 rfl ?_
    refine z_icmp_ge_n (q := 103) (tgt := 145) C (by omega) (by omega) dX6_run_100 (by decide) rfl (fun c100 => ?_) (fun c100 => ?_)
    · skip
      refine z_iconst (q := 146) C k_iconst_0 dX6_run_145 rfl ?_
      refine z_istore_n (q := 147) (lv' := [(1, .int (nI 0)), (0, .ref hm)]) C rfl dX6_run_146 rfl (by decide) rfl ?_
      refine z_iconst (q := 148) C k_iconst_m1 dX6_run_147 rfl ?_
      refine z_istore_n (q := 149) (lv' := [(2, .int (-1)), (1, .int (nI 0)), (0, .ref hm)]) C rfl dX6_run_148 rfl (by decide) rfl ?_
      refine z_iload_n (q := 150) C 0 rfl rfl dX6_run_149 rfl ?_
      refine z_aload_n (q := 151) C 2 rfl rfl dX6_run_150 rfl ?_
      refine z_get (q := 154) (v := .int (nI md)) C hiX6 0 11 rfl rfl (by decide) hf91 rfl dX6_run_151 rfl ?_
      refine z_icmp_eq (q := 157) (tgt := 292) C dX6_run_154 (by decide) rfl (fun c154 => ?_) (fun c154 => ?_)
      · skip
        exact absurd c154.symm (nI_nm1 (by have := hR.2.1; omega))
      · skip
        refine z_aload_n (q := 158) C 2 rfl rfl dX6_run_157 rfl ?_
        refine z_get (q := 161) (v := .int (zb fu)) C hiX6 0 14 rfl rfl (by decide) hf85 rfl dX6_run_158 rfl ?_
        refine z_if_ne_b (q := 164) (tgt := 292) C dX6_run_161 (by decide) rfl (fun c161 => ?_) (fun c161 => ?_)
        · skip
          exfalso
          obtain rfl : i = k := by omega
          have h3 : givN GL (axN ([], false) (axSz mb ak cnt)) i = initS0 (axSz mb ak cnt) GL := by unfold initS0; rw [hG.1]
          rw [h3, initS0_ok (axSz_le hcn) (by rw [hG.1]; exact hG.le), c161] at hR
          exact absurd (show false = true from hR.2.2.1) (by decide)
        · skip
          refine z_lv [2, 1, 0] rfl ?_
          obtain rfl : i = k := by omega
          have h3 : givN GL (axN ([], false) (axSz mb ak cnt)) i = initS0 (axSz mb ak cnt) GL := by unfold initS0; rw [hG.1]
          rw [h3, initS0_ok (axSz_le hcn) (by rw [hG.1]; exact hG.le)] at hR
          have hT0 : TOK nl (initS0 (axSz mb ak cnt) GL).1 := by unfold initS0; exact givN_tok hTG (axN_tok nl _ (axSz_le hcn)) _ (Nat.le_refl _)
          rw [c161]
          rw [c161] at hR
          exact l_X6_run_o hm e M mb ak cnt i nl n m hnl hcn GL hG hf C E 601 0 _ f3 f4 md (-1) (by omega) (by omega) hR hT0 (by omega) rfl
    · skip
      refine z_aload_n (q := 104) C 0 rfl rfl dX6_run_103 rfl ?_
      refine z_aload_n (q := 105) C 0 rfl rfl dX6_run_104 rfl ?_
      refine z_get (q := 108) (v := .ref (e 0)) C hiX6 0 5 rfl rfl (by decide) hf13 rfl dX6_run_105 rfl ?_
      refine z_iconst (q := 109) C k_iconst_3 dX6_run_108 rfl ?_
      refine z_iload_n (q := 110) C 1 rfl rfl dX6_run_109 rfl ?_
      refine z_imul (q := 111) C dX6_run_110 rfl ?_
      refine z_eqi (y := nI (3 * i)) (pk_mul 3 i) ?_
      refine z_iald (q := 112) C 1 rfl (i := 3 * i) (by omega) (by decide) dX6_run_111 rfl ?_
      refine z_aload_n (q := 113) C 0 rfl rfl dX6_run_112 rfl ?_
      refine z_get (q := 116) (v := .ref (e 0)) C hiX6 0 5 rfl rfl (by decide) hf13 rfl dX6_run_113 rfl ?_
      refine z_iconst (q := 117) C k_iconst_3 dX6_run_116 rfl ?_
      refine z_iload_n (q := 118) C 1 rfl rfl dX6_run_117 rfl ?_
      refine z_imul (q := 119) C dX6_run_118 rfl ?_
      refine z_eqi (y := nI (3 * i)) (pk_mul 3 i) ?_
      refine z_iconst (q := 120) C k_iconst_1 dX6_run_119 rfl ?_
      refine z_iadd (q := 121) C dX6_run_120 rfl ?_
      refine z_eqi (y := nI ((3 * i) + 1)) (nI_add (3 * i) 1) ?_
      refine z_iald (q := 122) C 1 rfl (i := (3 * i) + 1) (by omega) (by decide) dX6_run_121 rfl ?_
      refine z_aload_n (q := 123) C 0 rfl rfl dX6_run_122 rfl ?_
      refine z_get (q := 126) (v := .ref (e 0)) C hiX6 0 5 rfl rfl (by decide) hf13 rfl dX6_run_123 rfl ?_
      refine z_iconst (q := 127) C k_iconst_3 dX6_run_126 rfl ?_
      refine z_iload_n (q := 128) C 1 rfl rfl dX6_run_127 rfl ?_
      refine z_imul (q := 129) C dX6_run_128 rfl ?_
      refine z_eqi (y := nI (3 * i)) (pk_mul 3 i) ?_
      refine z_iconst (q := 130) C k_iconst_2 dX6_run_129 rfl ?_
      refine z_iadd (q := 131) C dX6_run_130 rfl ?_
      refine z_eqi (y := nI ((3 * i) + 2)) (nI_add (3 * i) 2) ?_
      refine z_iald (q := 132) C 1 rfl (i := (3 * i) + 2) (by omega) (by decide) dX6_run_131 rfl ?_
      refine z_iconst (q := 133) C k_iconst_m1 dX6_run_132 rfl ?_
      refine z_iconst (q := 134) C k_iconst_m1 dX6_run_133 rfl ?_
      refine z_iconst (q := 135) C k_iconst_m1 dX6_run_134 rfl ?_
      refine z_iconst (q := 136) C k_iconst_0 dX6_run_135 rfl ?_
      refine z_callV (q := 139) (n := 7) (As := [.int ((M 0) (3 * i)), .int ((M 0) ((3 * i) + 1)), .int ((M 0) ((3 * i) + 2)), .int (-1), .int (-1), .int (-1), .int (nI 0)]) (rest := []) (wr := []) C (c_X6_makes X.l X.D X.2.1 hm e (setM M f3 f4) (nI 0) mb ak cnt k nl n m md fu hnl (givN GL (axN ([], false) (axSz mb ak cnt)) i) hR (M 0 (3 * i)) (M 0 (3 * i + 1)) (M 0 (3 * i + 2)) (-1) (-1) (-1) (nI 0) (by rw [hG.at0 (by omega)]; exact hTG i 0 (by rw [hG.1]; omega) (by omega)) (by rw [hG.at1 (by omega)]; exact hTG i 1 (by rw [hG.1]; omega) (by omega)) (by rw [hG.at2 (by omega)]; exact hTG i 2 (by rw [hG.1]; omega) (by omega))) gX6_run_X6_makes rfl rfl rfl (by decide +kernel) (by decide) ⟨by first | decide | omega, by first | decide | omega⟩ 0 6 rfl rfl [0, 1, 2, 3, 4, 5, 6] [] rfl rfl (by decide) (by decide) (by decide) rfl rfl (Nat.le_of_ble_eq_true rfl) dX6_run_136 rfl (fun v w1 hp => ?_)
      obtain ⟨f5, f6, md1, fu1, hR1, rfl, rfl⟩ := hp
      rw [hG.at0 (by omega), hG.at1 (by omega), hG.at2 (by omega)] at hR1
      show zW X 7 [(hm, .inr (6, [.int (nI 0), .int (zb mb), .int (zb ak), .int (nI cnt), .int (nI k), .ref (e 0), .int (nI nl), .ref (e 1), .int (nI n), .ref (e 2), .int (nI m), .int (nI md1), .ref (e 3), .ref (e 4), .int (zb fu1), .ref (e 5)])), (e 0, .inl (X.cI, 240, .inl (M 0))), (e 1, .inl (X.cI, 40, .inl (M 1))), (e 2, .inl (X.cI, 4200, .inl (M 2))), (e 3, .inl (X.cI, 4207, .inl f5)), (e 4, .inl (X.cI, 2048, .inl f6)), (e 5, .inl (X.cI, 600, .inl (M 5)))] _ _ 139 _ []
      refine z_iinc (q := 142) (v := nI (i + 1)) (lv' := [(1, .int (nI (i + 1))), (0, .ref hm)]) C 1 dX6_run_139 rfl rfl (k_inc1 i) (by decide) rfl ?_
      refine z_goto (tgt := 95) C dX6_run_142 (by decide) ?_
      refine z_lv [1, 0] rfl ?_
      exact ih (i + 1) f5 f6 md1 fu1 (by omega) (by omega) hR1

set_option maxHeartbeats 4000000 in
set_option maxRecDepth 100000 in
theorem l_X6_run_a {X : zX} (hm : Nat) (e : Nat → Nat) (M : Nat → Nat → Int32) (mb ak : Bool) (cnt k nl n m : Nat) (hnl : nl ≤ 40) (hcn : cnt ≤ 9) (GL : List Row) (hG : mgRep (M 0) k GL) (hf : ∀ j, j < nl → tok nl (M 1 j)) (hTG : TOK nl GL) (C : zC X cX6_run 7 RX6 wsX6_run ({ frames := 3, cells := 0, slots := 0, locals := 82 } : Room)) (E : zE X (some .int) 0 0 (fun v w1 => (cdRun nl (M 1) (axSz mb ak cnt) GL = 1 ∧ ∃ (f3 f4 : Nat → Int32) (md1 : Nat) (fu1 : Bool), v = some (.int (nI 0)) ∧ w1 = [(hm, .inr (6, [.int (nI 1), .int (zb mb), .int (zb ak), .int (nI cnt), .int (nI k), .ref (e 0), .int (nI nl), .ref (e 1), .int (nI n), .ref (e 2), .int (nI m), .int (nI md1), .ref (e 3), .ref (e 4), .int (zb fu1), .ref (e 5)])), (e 0, .inl (X.cI, 240, .inl (M 0))), (e 1, .inl (X.cI, 40, .inl (M 1))), (e 2, .inl (X.cI, 4200, .inl (M 2))), (e 3, .inl (X.cI, 4207, .inl f3)), (e 4, .inl (X.cI, 2048, .inl f4)), (e 5, .inl (X.cI, 600, .inl (M 5)))]) ∨ (cdRun nl (M 1) (axSz mb ak cnt) GL = 0 ∧ ∃ (f2 f3 f4 : Nat → Int32) (n1 : Nat) (fu1 : Bool), cloRep f2 n1 (runS nl (M 1) (axSz mb ak cnt) GL).1.1 ∧ v = some (.int (runS nl (M 1) (axSz mb ak cnt) GL).2) ∧ w1 = [(hm, .inr (6, [.int (nI 0), .int (zb mb), .int (zb ak), .int (nI cnt), .int (nI k), .ref (e 0), .int (nI nl), .ref (e 1), .int (nI n1), .ref (e 2), .int (nI (memN mb ak cnt)), .int (nI n1), .ref (e 3), .ref (e 4), .int (zb fu1), .ref (e 5)])), (e 0, .inl (X.cI, 240, .inl (M 0))), (e 1, .inl (X.cI, 40, .inl (M 1))), (e 2, .inl (X.cI, 4200, .inl f2)), (e 3, .inl (X.cI, 4207, .inl f3)), (e 4, .inl (X.cI, 2048, .inl f4)), (e 5, .inl (X.cI, 600, .inl (M 5)))]))) : ∀ (z : Nat) (i : Nat) (f3 f4 : Nat → Int32) (md : Nat) (fu : Bool), i ≤ 42 → 42 < i + z → (0 < i → ak = true) → mRep f3 f4 md fu (axN ([], false) (min i (axLim mb cnt))) → zW X 7 [(hm, .inr (6, [.int (nI 0), .int (zb mb), .int (zb ak), .int (nI cnt), .int (nI k), .ref (e 0), .int (nI nl), .ref (e 1), .int (nI n), .ref (e 2), .int (nI m), .int (nI md), .ref (e 3), .ref (e 4), .int (zb fu), .ref (e 5)])), (e 0, .inl (X.cI, 240, .inl (M 0))), (e 1, .inl (X.cI, 40, .inl (M 1))), (e 2, .inl (X.cI, 4200, .inl (M 2))), (e 3, .inl (X.cI, 4207, .inl f3)), (e 4, .inl (X.cI, 2048, .inl f4)), (e 5, .inl (X.cI, 600, .inl (M 5)))] 0 0 39 [(0, .ref hm), (1, .int (nI i))] [] := by
  have hiX6 : ∀ w ∈ u_ws RX6 TX6 16, w ∈ wsX6_run := by decide +kernel
  have hf75 : Cond.fieldLink RX6 75 "RdfsRulesModel" "asked" "Z" ∈ wsX6_run := by decide +kernel
  intro z
  induction z with
  | zero =>
    intro i f3 f4 md fu hi hz hak hR
    exfalso
    omega
  | succ z ih =>
    intro i f3 f4 md fu hi hz hak hR
    refine z_iload_n (q := 40) C 1 rfl rfl dX6_run_39 rfl ?_
    refine z_bipush (q := 42) C k_bipush_42 dX6_run_40 rfl ?_
    refine z_icmp_ge_n (q := 45) (tgt := 93) C (by omega) (by omega) dX6_run_42 (by decide) rfl (fun c42 => ?_) (fun c42 => ?_)
    · skip
      refine z_iconst (q := 94) C k_iconst_0 dX6_run_93 rfl ?_
      refine z_istore_n (q := 95) (lv' := [(1, .int (nI 0)), (0, .ref hm)]) C rfl dX6_run_94 rfl (by decide) rfl ?_
      refine z_lv [1, 0] rfl ?_
      have h42 := axLim_le (mb := mb) hcn
      have hs0 : min i (axLim mb cnt) = axSz mb ak cnt := by rw [hak (by omega), ← axLim_sz]; omega
      rw [hs0] at hR
      exact l_X6_run_g hm e M mb ak cnt k nl n m hnl hcn GL hG hf hTG C E (k + 1) 0 f3 f4 md fu (by omega) (by omega) hR
    · skip
      refine z_aload_n (q := 46) C 0 rfl rfl dX6_run_45 rfl ?_
      refine z_get (q := 49) (v := .int (zb ak)) C hiX6 0 2 rfl rfl (by decide) hf75 rfl dX6_run_46 rfl ?_
      refine z_if_eq_b (q := 52) (tgt := 93) C dX6_run_49 (by decide) rfl (fun c49 => ?_) (fun c49 => ?_)
      · skip
        refine z_iconst (q := 94) C k_iconst_0 dX6_run_93 rfl ?_
        refine z_istore_n (q := 95) (lv' := [(1, .int (nI 0)), (0, .ref hm)]) C rfl dX6_run_94 rfl (by decide) rfl ?_
        refine z_lv [1, 0] rfl ?_
        have h0 : i = 0 := by rcases Nat.eq_zero_or_pos i with z9 | z9; exact z9; exact absurd (hak z9) (by rw [c49]; decide)
        have hs0 : min i (axLim mb cnt) = axSz mb ak cnt := by rw [h0, show axSz mb ak cnt = 0 from if_neg (by rw [c49]; decide), Nat.zero_min]
        rw [hs0] at hR
        exact l_X6_run_g hm e M mb ak cnt k nl n m hnl hcn GL hG hf hTG C E (k + 1) 0 f3 f4 md fu (by omega) (by omega) hR
      · skip
        refine z_aload_n (q := 53) C 0 rfl rfl dX6_run_52 rfl ?_
        refine z_iload_n (q := 54) C 1 rfl rfl dX6_run_53 rfl ?_
        refine z_callV (q := 57) (n := 1) (As := [.int (nI i)]) (rest := []) (wr := [(e 0, .inl (X.cI, 240, .inl (M 0))), (e 1, .inl (X.cI, 40, .inl (M 1))), (e 2, .inl (X.cI, 4200, .inl (M 2))), (e 3, .inl (X.cI, 4207, .inl f3)), (e 4, .inl (X.cI, 2048, .inl f4)), (e 5, .inl (X.cI, 600, .inl (M 5)))]) C (c_X6_axiom X.l X.D X.2.1 hm e (setM M f3 f4) (nI 0) mb ak cnt k nl n m md fu hcn i (by omega)) gX6_run_X6_axiom rfl rfl rfl (by decide +kernel) (by decide) ⟨by first | decide | omega, by first | decide | omega⟩ 0 6 rfl rfl [0] [1, 2, 3, 4, 5, 6] rfl rfl (by decide) (by decide) (by decide) rfl rfl (Nat.le_of_ble_eq_true rfl) dX6_run_54 rfl (fun v w1 hp => ?_)
        rcases hp with ⟨hlim, a, ha, ⟨e1, e2, e3⟩, rfl, rfl⟩ | ⟨hlim, rfl, rfl⟩
        · skip
          show zW X 7 [(e 0, .inl (X.cI, 240, .inl (M 0))), (e 1, .inl (X.cI, 40, .inl (M 1))), (e 2, .inl (X.cI, 4200, .inl (M 2))), (e 3, .inl (X.cI, 4207, .inl f3)), (e 4, .inl (X.cI, 2048, .inl f4)), (e 5, .inl (X.cI, 600, .inl (M 5))), (hm, .inr (6, [.int (nI 0), .int (zb mb), .int (zb ak), .int (nI cnt), .int (nI k), .ref (e 0), .int (nI nl), .ref (e 1), .int (nI n), .ref (e 2), .int (nI m), .int (nI md), .ref (e 3), .ref (e 4), .int (zb fu), .ref (e 5)]))] _ _ 57 _ [.int (nI a)]
          refine z_ws (ws' := [(hm, .inr (6, [.int (nI 0), .int (zb mb), .int (zb ak), .int (nI cnt), .int (nI k), .ref (e 0), .int (nI nl), .ref (e 1), .int (nI n), .ref (e 2), .int (nI m), .int (nI md), .ref (e 3), .ref (e 4), .int (zb fu), .ref (e 5)])), (e 0, .inl (X.cI, 240, .inl (M 0))), (e 1, .inl (X.cI, 40, .inl (M 1))), (e 2, .inl (X.cI, 4200, .inl (M 2))), (e 3, .inl (X.cI, 4207, .inl f3)), (e 4, .inl (X.cI, 2048, .inl f4)), (e 5, .inl (X.cI, 600, .inl (M 5)))]) [6, 0, 1, 2, 3, 4, 5] (by decide) rfl ?_
          refine z_istore_n (q := 58) (lv' := [(2, .int (nI a)), (0, .ref hm), (1, .int (nI i))]) C rfl dX6_run_57 rfl (by decide) rfl ?_
          refine z_iload_n (q := 59) C 0 rfl rfl dX6_run_58 rfl ?_
          refine z_if_lt_n (q := 62) (tgt := 87) C (by omega) dX6_run_59 (by decide) rfl (fun c59 => ?_) (fun c59 => ?_)
          · skip
            exact c59.elim
          · skip
            refine z_aload_n (q := 63) C 1 rfl rfl dX6_run_62 rfl ?_
            refine z_iload_n (q := 64) C 0 rfl rfl dX6_run_63 rfl ?_
            refine z_sipush (q := 67) C k_sipush_10000 dX6_run_64 rfl ?_
            refine z_idiv (q := 68) C (by decide) dX6_run_67 rfl ?_
            refine z_eqi (y := nI (a / 10000)) (pk_div (a := a) (d := 10000) (by omega) (by omega) (by omega)) ?_
            refine z_iload_n (q := 69) C 0 rfl rfl dX6_run_68 rfl ?_
            refine z_bipush (q := 71) C k_bipush_100 dX6_run_69 rfl ?_
            refine z_idiv (q := 72) C (by decide) dX6_run_71 rfl ?_
            refine z_eqi (y := nI (a / 100)) (pk_div (a := a) (d := 100) (by omega) (by omega) (by omega)) ?_
            refine z_bipush (q := 74) C k_bipush_100 dX6_run_72 rfl ?_
            refine z_irem (q := 75) C (by decide) dX6_run_74 rfl ?_
            refine z_eqi (y := nI ((a / 100) % 100)) (pk_rem (a := a / 100) (d := 100) (by omega) (by omega) (by omega)) ?_
            refine z_iload_n (q := 76) C 0 rfl rfl dX6_run_75 rfl ?_
            refine z_bipush (q := 78) C k_bipush_100 dX6_run_76 rfl ?_
            refine z_irem (q := 79) C (by decide) dX6_run_78 rfl ?_
            refine z_eqi (y := nI (a % 100)) (pk_rem (a := a) (d := 100) (by omega) (by omega) (by omega)) ?_
            refine z_bipush (q := 81) C k_bipush_m2 dX6_run_79 rfl ?_
            refine z_iconst (q := 82) C k_iconst_m1 dX6_run_81 rfl ?_
            refine z_iconst (q := 83) C k_iconst_m1 dX6_run_82 rfl ?_
            refine z_iconst (q := 84) C k_iconst_0 dX6_run_83 rfl ?_
            refine z_callV (q := 87) (n := 7) (As := [.int (nI (a / 10000)), .int (nI ((a / 100) % 100)), .int (nI (a % 100)), .int (-2), .int (-1), .int (-1), .int (nI 0)]) (rest := []) (wr := []) C (c_X6_makes X.l X.D X.2.1 hm e (setM M f3 f4) (nI 0) mb ak cnt k nl n m md fu hnl (axN ([], false) (min i (axLim mb cnt))) hR (nI (a / 10000)) (nI (a / 100 % 100)) (nI (a % 100)) (-2) (-1) (-1) (nI 0) ⟨a / 10000, by omega, rfl⟩ ⟨a / 100 % 100, by omega, rfl⟩ ⟨a % 100, by omega, rfl⟩) gX6_run_X6_makes rfl rfl rfl (by decide +kernel) (by decide) ⟨by first | decide | omega, by first | decide | omega⟩ 0 6 rfl rfl [0, 1, 2, 3, 4, 5, 6] [] rfl rfl (by decide) (by decide) (by decide) rfl rfl (Nat.le_of_ble_eq_true rfl) dX6_run_84 rfl (fun v w1 hp => ?_)
            obtain ⟨f5, f6, md1, fu1, hR1, rfl, rfl⟩ := hp
            rw [e1, e2, e3] at hR1
            show zW X 7 [(hm, .inr (6, [.int (nI 0), .int (zb mb), .int (zb ak), .int (nI cnt), .int (nI k), .ref (e 0), .int (nI nl), .ref (e 1), .int (nI n), .ref (e 2), .int (nI m), .int (nI md1), .ref (e 3), .ref (e 4), .int (zb fu1), .ref (e 5)])), (e 0, .inl (X.cI, 240, .inl (M 0))), (e 1, .inl (X.cI, 40, .inl (M 1))), (e 2, .inl (X.cI, 4200, .inl (M 2))), (e 3, .inl (X.cI, 4207, .inl f5)), (e 4, .inl (X.cI, 2048, .inl f6)), (e 5, .inl (X.cI, 600, .inl (M 5)))] _ _ 87 _ []
            refine z_iinc (q := 90) (v := nI (i + 1)) (lv' := [(1, .int (nI (i + 1))), (2, .int (nI a)), (0, .ref hm)]) C 2 dX6_run_87 rfl rfl (k_inc1 i) (by decide) rfl ?_
            refine z_goto (tgt := 39) C dX6_run_90 (by decide) ?_
            refine z_lv [2, 0] rfl ?_
            exact ih (i + 1) f5 f6 md1 fu1 (by omega) (by omega) (fun _ => c49) (by rw [Nat.min_eq_left (by omega)]; rw [Nat.min_eq_left (by omega)] at hR1; exact hR1)
        · skip
          show zW X 7 [(e 0, .inl (X.cI, 240, .inl (M 0))), (e 1, .inl (X.cI, 40, .inl (M 1))), (e 2, .inl (X.cI, 4200, .inl (M 2))), (e 3, .inl (X.cI, 4207, .inl f3)), (e 4, .inl (X.cI, 2048, .inl f4)), (e 5, .inl (X.cI, 600, .inl (M 5))), (hm, .inr (6, [.int (nI 0), .int (zb mb), .int (zb ak), .int (nI cnt), .int (nI k), .ref (e 0), .int (nI nl), .ref (e 1), .int (nI n), .ref (e 2), .int (nI m), .int (nI md), .ref (e 3), .ref (e 4), .int (zb fu), .ref (e 5)]))] _ _ 57 _ [.int (-1)]
          refine z_ws (ws' := [(hm, .inr (6, [.int (nI 0), .int (zb mb), .int (zb ak), .int (nI cnt), .int (nI k), .ref (e 0), .int (nI nl), .ref (e 1), .int (nI n), .ref (e 2), .int (nI m), .int (nI md), .ref (e 3), .ref (e 4), .int (zb fu), .ref (e 5)])), (e 0, .inl (X.cI, 240, .inl (M 0))), (e 1, .inl (X.cI, 40, .inl (M 1))), (e 2, .inl (X.cI, 4200, .inl (M 2))), (e 3, .inl (X.cI, 4207, .inl f3)), (e 4, .inl (X.cI, 2048, .inl f4)), (e 5, .inl (X.cI, 600, .inl (M 5)))]) [6, 0, 1, 2, 3, 4, 5] (by decide) rfl ?_
          refine z_istore_n (q := 58) (lv' := [(2, .int (-1)), (0, .ref hm), (1, .int (nI i))]) C rfl dX6_run_57 rfl (by decide) rfl ?_
          refine z_iload_n (q := 59) C 0 rfl rfl dX6_run_58 rfl ?_
          refine z_if_lt_i (q := 62) (tgt := 87) C ti_m1 dX6_run_59 (by decide) rfl (fun c59 => ?_) (fun c59 => ?_)
          · skip
            refine z_iinc (q := 90) (v := nI (i + 1)) (lv' := [(1, .int (nI (i + 1))), (2, .int (-1)), (0, .ref hm)]) C 2 dX6_run_87 rfl rfl (k_inc1 i) (by decide) rfl ?_
            refine z_goto (tgt := 39) C dX6_run_90 (by decide) ?_
            refine z_lv [2, 0] rfl ?_
            exact ih (i + 1) f3 f4 md fu (by omega) (by omega) (fun _ => c49) (by rw [Nat.min_eq_right (by omega)]; rw [Nat.min_eq_right (by omega)] at hR; exact hR)
          · skip
            exact absurd c59 (by decide)

theorem mRep.empty {fr P : Nat → Int32} (h : ∀ q, q < 2048 → P q = nI 0) : mRep fr P 0 false ([], false) :=
  ⟨rfl, by omega, rfl, (fun e => by cases e), fun i j hi => absurd hi (Nat.not_lt_zero i), fun k hk => Or.inl (h k hk), fun k k' hk _ _ e => absurd (h k hk) e, fun j hj => absurd hj (Nat.not_lt_zero j), fun i j hi => absurd hi (Nat.not_lt_zero i)⟩

set_option maxHeartbeats 4000000 in
set_option maxRecDepth 100000 in
theorem l_X6_run_z {X : zX} (hm : Nat) (e : Nat → Nat) (M : Nat → Nat → Int32) (mb ak : Bool) (cnt k nl n m : Nat) (hnl : nl ≤ 40) (hcn : cnt ≤ 9) (GL : List Row) (hG : mgRep (M 0) k GL) (hf : ∀ j, j < nl → tok nl (M 1 j)) (hTG : TOK nl GL) (C : zC X cX6_run 7 RX6 wsX6_run ({ frames := 3, cells := 0, slots := 0, locals := 82 } : Room)) (E : zE X (some .int) 0 0 (fun v w1 => (cdRun nl (M 1) (axSz mb ak cnt) GL = 1 ∧ ∃ (f3 f4 : Nat → Int32) (md1 : Nat) (fu1 : Bool), v = some (.int (nI 0)) ∧ w1 = [(hm, .inr (6, [.int (nI 1), .int (zb mb), .int (zb ak), .int (nI cnt), .int (nI k), .ref (e 0), .int (nI nl), .ref (e 1), .int (nI n), .ref (e 2), .int (nI m), .int (nI md1), .ref (e 3), .ref (e 4), .int (zb fu1), .ref (e 5)])), (e 0, .inl (X.cI, 240, .inl (M 0))), (e 1, .inl (X.cI, 40, .inl (M 1))), (e 2, .inl (X.cI, 4200, .inl (M 2))), (e 3, .inl (X.cI, 4207, .inl f3)), (e 4, .inl (X.cI, 2048, .inl f4)), (e 5, .inl (X.cI, 600, .inl (M 5)))]) ∨ (cdRun nl (M 1) (axSz mb ak cnt) GL = 0 ∧ ∃ (f2 f3 f4 : Nat → Int32) (n1 : Nat) (fu1 : Bool), cloRep f2 n1 (runS nl (M 1) (axSz mb ak cnt) GL).1.1 ∧ v = some (.int (runS nl (M 1) (axSz mb ak cnt) GL).2) ∧ w1 = [(hm, .inr (6, [.int (nI 0), .int (zb mb), .int (zb ak), .int (nI cnt), .int (nI k), .ref (e 0), .int (nI nl), .ref (e 1), .int (nI n1), .ref (e 2), .int (nI (memN mb ak cnt)), .int (nI n1), .ref (e 3), .ref (e 4), .int (zb fu1), .ref (e 5)])), (e 0, .inl (X.cI, 240, .inl (M 0))), (e 1, .inl (X.cI, 40, .inl (M 1))), (e 2, .inl (X.cI, 4200, .inl f2)), (e 3, .inl (X.cI, 4207, .inl f3)), (e 4, .inl (X.cI, 2048, .inl f4)), (e 5, .inl (X.cI, 600, .inl (M 5)))]))) : ∀ (z : Nat) (i : Nat) (f4 : Nat → Int32), i ≤ 2048 → 2048 < i + z → (∀ q, q < i → f4 q = nI 0) → zW X 7 [(hm, .inr (6, [.int (nI 0), .int (zb mb), .int (zb ak), .int (nI cnt), .int (nI k), .ref (e 0), .int (nI nl), .ref (e 1), .int (nI n), .ref (e 2), .int (nI m), .int (nI 0), .ref (e 3), .ref (e 4), .int (zb false), .ref (e 5)])), (e 0, .inl (X.cI, 240, .inl (M 0))), (e 1, .inl (X.cI, 40, .inl (M 1))), (e 2, .inl (X.cI, 4200, .inl (M 2))), (e 3, .inl (X.cI, 4207, .inl (M 3))), (e 4, .inl (X.cI, 2048, .inl f4)), (e 5, .inl (X.cI, 600, .inl (M 5)))] 0 0 17 [(0, .ref hm), (1, .int (nI i))] [] := by
  have hiX6 : ∀ w ∈ u_ws RX6 TX6 16, w ∈ wsX6_run := by decide +kernel
  have hf26 : Cond.fieldLink RX6 26 "RdfsRulesModel" "places" "[I" ∈ wsX6_run := by decide +kernel
  intro z
  induction z with
  | zero =>
    intro i f4 hi hz hp4
    exfalso
    omega
  | succ z ih =>
    intro i f4 hi hz hp4
    refine z_iload_n (q := 18) C 1 rfl rfl dX6_run_17 rfl ?_
    refine z_sipush (q := 21) C k_sipush_2048 dX6_run_18 rfl ?_
    refine z_icmp_ge_n (q := 24) (tgt := 37) C (by omega) (by omega) dX6_run_21 (by decide) rfl (fun c21 => ?_) (fun c21 => ?_)
    · skip
      refine z_iconst (q := 38) C k_iconst_0 dX6_run_37 rfl ?_
      refine z_istore_n (q := 39) (lv' := [(1, .int (nI 0)), (0, .ref hm)]) C rfl dX6_run_38 rfl (by decide) rfl ?_
      refine z_lv [1, 0] rfl ?_
      exact l_X6_run_a hm e M mb ak cnt k nl n m hnl hcn GL hG hf hTG C E 43 0 (M 3) f4 0 false (by omega) (by omega) (fun z9 => absurd z9 (by decide)) (by rw [Nat.zero_min]; exact mRep.empty (fun q hq => hp4 q (by omega)))
    · skip
      refine z_aload_n (q := 25) C 0 rfl rfl dX6_run_24 rfl ?_
      refine z_get (q := 28) (v := .ref (e 4)) C hiX6 0 13 rfl rfl (by decide) hf26 rfl dX6_run_25 rfl ?_
      refine z_iload_n (q := 29) C 1 rfl rfl dX6_run_28 rfl ?_
      refine z_iconst (q := 30) C k_iconst_0 dX6_run_29 rfl ?_
      refine z_iast (q := 31) (ws' := [(hm, .inr (6, [.int (nI 0), .int (zb mb), .int (zb ak), .int (nI cnt), .int (nI k), .ref (e 0), .int (nI nl), .ref (e 1), .int (nI n), .ref (e 2), .int (nI m), .int (nI 0), .ref (e 3), .ref (e 4), .int (zb false), .ref (e 5)])), (e 0, .inl (X.cI, 240, .inl (M 0))), (e 1, .inl (X.cI, 40, .inl (M 1))), (e 2, .inl (X.cI, 4200, .inl (M 2))), (e 3, .inl (X.cI, 4207, .inl (M 3))), (e 4, .inl (X.cI, 2048, .inl (upd f4 i (nI 0)))), (e 5, .inl (X.cI, 600, .inl (M 5)))]) C 5 rfl (i := i) (by omega) (by decide) dX6_run_30 rfl rfl ?_
      refine z_iinc (q := 34) (v := nI (i + 1)) (lv' := [(1, .int (nI (i + 1))), (0, .ref hm)]) C 1 dX6_run_31 rfl rfl (k_inc1 i) (by decide) rfl ?_
      refine z_goto (tgt := 17) C dX6_run_34 (by decide) ?_
      refine z_lv [1, 0] rfl ?_
      exact ih (i + 1) (upd f4 i (nI 0)) (by omega) (by omega) (fun q hq => by show (if q = i then nI 0 else f4 q) = nI 0; split; rfl; exact hp4 q (by omega))

set_option maxHeartbeats 4000000 in
set_option maxRecDepth 100000 in
theorem c_X6_run (l : Launch) (D : va_G) (g : ClassId × ClassId × ClassId) (hm : Nat) (e : Nat → Nat) (M : Nat → Nat → Int32) (cd : Int32) (mb ak : Bool) (cnt k nl n m md : Nat) (fu : Bool) (hnl : nl ≤ 40) (hcn : cnt ≤ 9) (GL : List Row) (hG : mgRep (M 0) k GL) (hf : ∀ j, j < nl → tok nl (M 1 j)) (hTG : TOK nl GL) : zM l yX6_run wsX6_run ({ frames := 3, cells := 0, slots := 0, locals := 82 } : Room) D g [.ref hm] [(hm, .inr (6, [.int cd, .int (zb mb), .int (zb ak), .int (nI cnt), .int (nI k), .ref (e 0), .int (nI nl), .ref (e 1), .int (nI n), .ref (e 2), .int (nI m), .int (nI md), .ref (e 3), .ref (e 4), .int (zb fu), .ref (e 5)])), (e 0, .inl (g.1, 240, .inl (M 0))), (e 1, .inl (g.1, 40, .inl (M 1))), (e 2, .inl (g.1, 4200, .inl (M 2))), (e 3, .inl (g.1, 4207, .inl (M 3))), (e 4, .inl (g.1, 2048, .inl (M 4))), (e 5, .inl (g.1, 600, .inl (M 5)))] 0 0 (fun v w1 => (cdRun nl (M 1) (axSz mb ak cnt) GL = 1 ∧ ∃ (f3 f4 : Nat → Int32) (md1 : Nat) (fu1 : Bool), v = some (.int (nI 0)) ∧ w1 = [(hm, .inr (6, [.int (nI 1), .int (zb mb), .int (zb ak), .int (nI cnt), .int (nI k), .ref (e 0), .int (nI nl), .ref (e 1), .int (nI n), .ref (e 2), .int (nI m), .int (nI md1), .ref (e 3), .ref (e 4), .int (zb fu1), .ref (e 5)])), (e 0, .inl (g.1, 240, .inl (M 0))), (e 1, .inl (g.1, 40, .inl (M 1))), (e 2, .inl (g.1, 4200, .inl (M 2))), (e 3, .inl (g.1, 4207, .inl f3)), (e 4, .inl (g.1, 2048, .inl f4)), (e 5, .inl (g.1, 600, .inl (M 5)))]) ∨ (cdRun nl (M 1) (axSz mb ak cnt) GL = 0 ∧ ∃ (f2 f3 f4 : Nat → Int32) (n1 : Nat) (fu1 : Bool), cloRep f2 n1 (runS nl (M 1) (axSz mb ak cnt) GL).1.1 ∧ v = some (.int (runS nl (M 1) (axSz mb ak cnt) GL).2) ∧ w1 = [(hm, .inr (6, [.int (nI 0), .int (zb mb), .int (zb ak), .int (nI cnt), .int (nI k), .ref (e 0), .int (nI nl), .ref (e 1), .int (nI n1), .ref (e 2), .int (nI (memN mb ak cnt)), .int (nI n1), .ref (e 3), .ref (e 4), .int (zb fu1), .ref (e 5)])), (e 0, .inl (g.1, 240, .inl (M 0))), (e 1, .inl (g.1, 40, .inl (M 1))), (e 2, .inl (g.1, 4200, .inl f2)), (e 3, .inl (g.1, 4207, .inl f3)), (e 4, .inl (g.1, 2048, .inl f4)), (e 5, .inl (g.1, 600, .inl (M 5)))])) := by
  refine z_met (cc := cX6_run) (maxL := 7) (ret := (some .int)) (lv := [(0, .ref hm)]) (by decide) rfl (Nat.le_of_ble_eq_true rfl) rfl ?_
  intro X hXD hXg hXl hnm C E
  subst hXD hXg hXl
  have C : zC X cX6_run 7 RX6 wsX6_run ({ frames := 3, cells := 0, slots := 0, locals := 82 } : Room) := C
  have hiX6 : ∀ w ∈ u_ws RX6 TX6 16, w ∈ wsX6_run := by decide +kernel
  have hf36 : Cond.fieldLink RX6 36 "RdfsRulesModel" "code" "I" ∈ wsX6_run := by decide +kernel
  have hf85 : Cond.fieldLink RX6 85 "RdfsRulesModel" "full" "Z" ∈ wsX6_run := by decide +kernel
  have hf91 : Cond.fieldLink RX6 91 "RdfsRulesModel" "made" "I" ∈ wsX6_run := by decide +kernel
  refine z_aload_n (q := 1) C 0 rfl rfl dX6_run_0 rfl ?_
  refine z_iconst (q := 2) C k_iconst_0 dX6_run_1 rfl ?_
  refine z_put (q := 5) (ws' := [(hm, .inr (6, [.int (nI 0), .int (zb mb), .int (zb ak), .int (nI cnt), .int (nI k), .ref (e 0), .int (nI nl), .ref (e 1), .int (nI n), .ref (e 2), .int (nI m), .int (nI md), .ref (e 3), .ref (e 4), .int (zb fu), .ref (e 5)])), (e 0, .inl (X.cI, 240, .inl (M 0))), (e 1, .inl (X.cI, 40, .inl (M 1))), (e 2, .inl (X.cI, 4200, .inl (M 2))), (e 3, .inl (X.cI, 4207, .inl (M 3))), (e 4, .inl (X.cI, 2048, .inl (M 4))), (e 5, .inl (X.cI, 600, .inl (M 5)))]) C hiX6 tyX6_ok nmX6 0 0 rfl rfl (by decide) hf36 rfl rfl rfl (Nat.le_of_ble_eq_true rfl) dX6_run_2 rfl rfl ?_
  refine z_aload_n (q := 6) C 0 rfl rfl dX6_run_5 rfl ?_
  refine z_iconst (q := 7) C k_iconst_0 dX6_run_6 rfl ?_
  refine z_put (q := 10) (ws' := [(hm, .inr (6, [.int (nI 0), .int (zb mb), .int (zb ak), .int (nI cnt), .int (nI k), .ref (e 0), .int (nI nl), .ref (e 1), .int (nI n), .ref (e 2), .int (nI m), .int (nI 0), .ref (e 3), .ref (e 4), .int (zb fu), .ref (e 5)])), (e 0, .inl (X.cI, 240, .inl (M 0))), (e 1, .inl (X.cI, 40, .inl (M 1))), (e 2, .inl (X.cI, 4200, .inl (M 2))), (e 3, .inl (X.cI, 4207, .inl (M 3))), (e 4, .inl (X.cI, 2048, .inl (M 4))), (e 5, .inl (X.cI, 600, .inl (M 5)))]) C hiX6 tyX6_ok nmX6 0 11 rfl rfl (by decide) hf91 rfl rfl rfl (Nat.le_of_ble_eq_true rfl) dX6_run_7 rfl rfl ?_
  refine z_aload_n (q := 11) C 0 rfl rfl dX6_run_10 rfl ?_
  refine z_iconst (q := 12) C k_iconst_0 dX6_run_11 rfl ?_
  refine z_put (q := 15) (ws' := [(hm, .inr (6, [.int (nI 0), .int (zb mb), .int (zb ak), .int (nI cnt), .int (nI k), .ref (e 0), .int (nI nl), .ref (e 1), .int (nI n), .ref (e 2), .int (nI m), .int (nI 0), .ref (e 3), .ref (e 4), .int (nI 0), .ref (e 5)])), (e 0, .inl (X.cI, 240, .inl (M 0))), (e 1, .inl (X.cI, 40, .inl (M 1))), (e 2, .inl (X.cI, 4200, .inl (M 2))), (e 3, .inl (X.cI, 4207, .inl (M 3))), (e 4, .inl (X.cI, 2048, .inl (M 4))), (e 5, .inl (X.cI, 600, .inl (M 5)))]) C hiX6 tyX6_ok nmX6 0 14 rfl rfl (by decide) hf85 rfl (by decide) (by decide) (Nat.le_of_ble_eq_true rfl) dX6_run_12 rfl rfl ?_
  refine z_iconst (q := 16) C k_iconst_0 dX6_run_15 rfl ?_
  refine z_istore_n (q := 17) (lv' := [(1, .int (nI 0)), (0, .ref hm)]) C rfl dX6_run_16 rfl (by decide) rfl ?_
  refine z_lv [1, 0] rfl ?_
  exact l_X6_run_z hm e M mb ak cnt k nl n m hnl hcn GL hG hf hTG C E 2049 0 (M 4) (by omega) (by omega) (fun q hq => absurd hq (Nat.not_lt_zero q))
