theorem hB_59 : ∀ w ∈ (vx_atS RX5 59 xIA xNs).filter (fun w => !goodWord w), w ∈ zB := by decide +kernel
theorem hg_59 : ∀ w ∈ Cond.classLink RX5 55 xIA :: Cond.initialized xIA :: vx_atS RX5 59 xIA xNs, vx_ot w = true := by decide +kernel
theorem hB_70 : ∀ w ∈ (vx_atS RX5 70 xIS xNs).filter (fun w => !goodWord w), w ∈ zB := by decide +kernel
theorem hg_70 : ∀ w ∈ Cond.classLink RX5 66 xIS :: Cond.initialized xIS :: vx_atS RX5 70 xIS xNs, vx_ot w = true := by decide +kernel
theorem hB_128 : ∀ w ∈ (vx_atS RX5 128 xUO xNs).filter (fun w => !goodWord w), w ∈ zB := by decide +kernel
theorem hg_128 : ∀ w ∈ Cond.classLink RX5 124 xUO :: Cond.initialized xUO :: vx_atS RX5 128 xUO xNs, vx_ot w = true := by decide +kernel
set_option maxHeartbeats 4000000 in
set_option maxRecDepth 100000 in
theorem c_X5_mayBeFact (l : Launch) (D : va_G) (g : ClassId × ClassId × ClassId) (hc ht hg hx hr hl hs : Nat) (ta nl : Nat) (hnl : nl ≤ 40) (s p o : Int32) : zM l yX5_mayBeFact wsX5_mayBeFact ({ frames := 2, cells := 0, slots := 0, locals := 42 } : Room) D g [.ref hc, .int s, .int p, .int o] [(hc, .inr (5, [.ref ht, .ref hg, .ref hx, .ref hr, .ref hl, .ref hs])), (ht, .inr (4, [.ref ta, .int (nI nl)]))] 0 0 (fun v w1 => v = some (.int (zb (factB nl s p o))) ∧ w1 = [(hc, .inr (5, [.ref ht, .ref hg, .ref hx, .ref hr, .ref hl, .ref hs])), (ht, .inr (4, [.ref ta, .int (nI nl)]))]) := by
  refine z_met (cc := cX5_mayBeFact) (maxL := 4) (ret := (some .boolean)) (lv := [(0, .ref hc), (1, .int s), (2, .int p), (3, .int o)]) (by decide) rfl (Nat.le_of_ble_eq_true rfl) rfl ?_
  intro X hXD hXg hXl hnm C E
  subst hXD hXg hXl
  have C : zC X cX5_mayBeFact 4 RX5 wsX5_mayBeFact ({ frames := 2, cells := 0, slots := 0, locals := 42 } : Room) := C
  have hiX5 : ∀ w ∈ u_ws RX5 TX5 6, w ∈ wsX5_mayBeFact := by decide +kernel
  have hf10 : Cond.fieldLink RX5 10 "RdfsRules" "terms" "LRdfsRules$Terms;" ∈ wsX5_mayBeFact := by decide +kernel
  refine z_aload_n (q := 1) C 0 rfl rfl dX5_mayBeFact_0 rfl ?_
  refine z_get (q := 4) (v := .ref ht) C hiX5 0 0 rfl rfl (by decide) hf10 rfl dX5_mayBeFact_1 rfl ?_
  refine z_iload_n (q := 5) C 1 rfl rfl dX5_mayBeFact_4 rfl ?_
  refine z_callV (q := 8) (n := 1) (As := [.int s]) (rest := []) (wr := [(hc, .inr (5, [.ref ht, .ref hg, .ref hx, .ref hr, .ref hl, .ref hs]))]) C (c_X4_isNonLiteral X.l X.D X.2.1 ht ta nl s) gX5_mayBeFact_X4_isNonLiteral rfl rfl rfl (by decide +kernel) (by decide) ⟨by first | decide | omega, by first | decide | omega⟩ 0 4 rfl rfl [1] [0] rfl rfl (by decide) (by decide) (by decide) rfl rfl (Nat.le_of_ble_eq_true rfl) dX5_mayBeFact_5 rfl (fun v w1 hp => ?_)
  obtain ⟨rfl, rfl⟩ := hp
  show zW X 4 [(hc, .inr (5, [.ref ht, .ref hg, .ref hx, .ref hr, .ref hl, .ref hs])), (ht, .inr (4, [.ref ta, .int (nI nl)]))] _ _ 8 _ [.int (zb (plainB s))]
  refine z_if_eq_b (q := 11) (tgt := 37) C dX5_mayBeFact_8 (by decide) rfl (fun c8 => ?_) (fun c8 => ?_)
  · skip
    refine z_iconst (q := 38) C k_iconst_0 dX5_mayBeFact_37 rfl ?_
    refine z_zret C E (by omega) (by omega) (by decide) dX5_mayBeFact_38 ?_
    refine ⟨congrArg (fun z => some (Value.int z)) (zb_is0 ?_), rfl⟩
    unfold factB
    simp [*]
  · skip
    refine z_aload_n (q := 12) C 0 rfl rfl dX5_mayBeFact_11 rfl ?_
    refine z_get (q := 15) (v := .ref ht) C hiX5 0 0 rfl rfl (by decide) hf10 rfl dX5_mayBeFact_12 rfl ?_
    refine z_iload_n (q := 16) C 2 rfl rfl dX5_mayBeFact_15 rfl ?_
    refine z_callV (q := 19) (n := 1) (As := [.int p]) (rest := []) (wr := [(hc, .inr (5, [.ref ht, .ref hg, .ref hx, .ref hr, .ref hl, .ref hs]))]) C (c_X4_isNonLiteral X.l X.D X.2.1 ht ta nl p) gX5_mayBeFact_X4_isNonLiteral rfl rfl rfl (by decide +kernel) (by decide) ⟨by first | decide | omega, by first | decide | omega⟩ 0 4 rfl rfl [1] [0] rfl rfl (by decide) (by decide) (by decide) rfl rfl (Nat.le_of_ble_eq_true rfl) dX5_mayBeFact_16 rfl (fun v w1 hp => ?_)
    obtain ⟨rfl, rfl⟩ := hp
    show zW X 4 [(hc, .inr (5, [.ref ht, .ref hg, .ref hx, .ref hr, .ref hl, .ref hs])), (ht, .inr (4, [.ref ta, .int (nI nl)]))] _ _ 19 _ [.int (zb (plainB p))]
    refine z_if_eq_b (q := 22) (tgt := 37) C dX5_mayBeFact_19 (by decide) rfl (fun c19 => ?_) (fun c19 => ?_)
    · skip
      refine z_iconst (q := 38) C k_iconst_0 dX5_mayBeFact_37 rfl ?_
      refine z_zret C E (by omega) (by omega) (by decide) dX5_mayBeFact_38 ?_
      refine ⟨congrArg (fun z => some (Value.int z)) (zb_is0 ?_), rfl⟩
      unfold factB
      simp [*]
    · skip
      refine z_aload_n (q := 23) C 0 rfl rfl dX5_mayBeFact_22 rfl ?_
      refine z_get (q := 26) (v := .ref ht) C hiX5 0 0 rfl rfl (by decide) hf10 rfl dX5_mayBeFact_23 rfl ?_
      refine z_iload_n (q := 27) C 3 rfl rfl dX5_mayBeFact_26 rfl ?_
      refine z_callV (q := 30) (n := 1) (As := [.int o]) (rest := []) (wr := [(hc, .inr (5, [.ref ht, .ref hg, .ref hx, .ref hr, .ref hl, .ref hs]))]) C (c_X4_isTerm X.l X.D X.2.1 ht ta nl hnl o) gX5_mayBeFact_X4_isTerm rfl rfl rfl (by decide +kernel) (by decide) ⟨by first | decide | omega, by first | decide | omega⟩ 0 4 rfl rfl [1] [0] rfl rfl (by decide) (by decide) (by decide) rfl rfl (Nat.le_of_ble_eq_true rfl) dX5_mayBeFact_27 rfl (fun v w1 hp => ?_)
      obtain ⟨rfl, rfl⟩ := hp
      show zW X 4 [(hc, .inr (5, [.ref ht, .ref hg, .ref hx, .ref hr, .ref hl, .ref hs])), (ht, .inr (4, [.ref ta, .int (nI nl)]))] _ _ 30 _ [.int (zb (plainB o || litB nl o))]
      refine z_if_eq_b (q := 33) (tgt := 37) C dX5_mayBeFact_30 (by decide) rfl (fun c30 => ?_) (fun c30 => ?_)
      · skip
        refine z_iconst (q := 38) C k_iconst_0 dX5_mayBeFact_37 rfl ?_
        refine z_zret C E (by omega) (by omega) (by decide) dX5_mayBeFact_38 ?_
        refine ⟨congrArg (fun z => some (Value.int z)) (zb_is0 ?_), rfl⟩
        unfold factB
        simp [*]
      · skip
        refine z_iconst (q := 34) C k_iconst_1 dX5_mayBeFact_33 rfl ?_
        refine z_goto (tgt := 38) C dX5_mayBeFact_34 (by decide) ?_
        refine z_zret C E (by omega) (by omega) (by decide) dX5_mayBeFact_38 ?_
        refine ⟨congrArg (fun z => some (Value.int z)) (zb_is1 ?_), rfl⟩
        unfold factB
        simp [*]

set_option maxHeartbeats 4000000 in
set_option maxRecDepth 100000 in
theorem c_X5_literal (l : Launch) (hst : l.stackTraces = false) (D : va_G) (g : ClassId × ClassId × ClassId) (t : Nat × Nat) (hc ht hg hx hr hl hs : Nat) (ta nl : Nat) (hnl : nl ≤ 40) (tf : Nat → Int32) (x : Int32) : zMX t l yX5_literal wsX5_literal ({ frames := 6, cells := 1, slots := 6, locals := 82 } : Room) D g [.ref hc, .int x] [(hc, .inr (5, [.ref ht, .ref hg, .ref hx, .ref hr, .ref hl, .ref hs])), (ht, .inr (4, [.ref ta, .int (nI nl)])), (ta, .inl (g.1, 40, .inl tf))] 1 6 (fun v w1 => cdLit nl x = 0 ∧ v = some (.int (nI (300 + nl))) ∧ w1 = [(hc, .inr (5, [.ref ht, .ref hg, .ref hx, .ref hr, .ref hl, .ref hs])), (ht, .inr (4, [.ref ta, .int (nI (nl + 1))])), (ta, .inl (g.1, 40, .inl (upd tf nl x)))]) (fun E w1 => (E = xIA ∧ cdLit nl x = 1 ∨ E = xIS ∧ cdLit nl x = 2) ∧ w1 = [(hc, .inr (5, [.ref ht, .ref hg, .ref hx, .ref hr, .ref hl, .ref hs])), (ht, .inr (4, [.ref ta, .int (nI nl)])), (ta, .inl (g.1, 40, .inl tf))]) := by
  refine z_metX (cc := cX5_literal) (maxL := 2) (ret := (some .int)) (lv := [(0, .ref hc), (1, .int x)]) (by decide) rfl (Nat.le_of_ble_eq_true rfl) rfl ?_
  intro X hXD hXg hXl hnm C E hZ hTb
  subst hXD hXg hXl
  have C : zC X cX5_literal 2 RX5 wsX5_literal ({ frames := 6, cells := 1, slots := 6, locals := 82 } : Room) := C
  have hiX5 : ∀ w ∈ u_ws RX5 TX5 6, w ∈ wsX5_literal := by decide +kernel
  have hf10 : Cond.fieldLink RX5 10 "RdfsRules" "terms" "LRdfsRules$Terms;" ∈ wsX5_literal := by decide +kernel
  have hk55 : Cond.classLink RX5 55 xIA ∈ wsX5_literal := by decide +kernel
  have hn55 : Cond.initialized xIA ∈ wsX5_literal := by decide +kernel
  have ha55 : ∀ w ∈ (vx_atS RX5 59 xIA xNs).filter goodWord, w ∈ wsX5_literal := by first | exact fun w h => List.mem_cons_of_mem _ (List.mem_append_right _ h) | exact fun w h => List.mem_cons_of_mem _ (List.mem_append_left _ (List.mem_append_right _ h)) | decide +kernel
  have hk66 : Cond.classLink RX5 66 xIS ∈ wsX5_literal := by decide +kernel
  have hn66 : Cond.initialized xIS ∈ wsX5_literal := by decide +kernel
  have ha66 : ∀ w ∈ (vx_atS RX5 70 xIS xNs).filter goodWord, w ∈ wsX5_literal := by first | exact fun w h => List.mem_cons_of_mem _ (List.mem_append_right _ h) | exact fun w h => List.mem_cons_of_mem _ (List.mem_append_left _ (List.mem_append_right _ h)) | decide +kernel
  refine z_aload_n (q := 1) C 0 rfl rfl dX5_literal_0 rfl ?_
  refine z_get (q := 4) (v := .ref ht) C hiX5 0 0 rfl rfl (by decide) hf10 rfl dX5_literal_1 rfl ?_
  refine z_iload_n (q := 5) C 1 rfl rfl dX5_literal_4 rfl ?_
  refine z_callV (q := 8) (n := 1) (As := [.int x]) (rest := []) (wr := [(hc, .inr (5, [.ref ht, .ref hg, .ref hx, .ref hr, .ref hl, .ref hs])), (ta, .inl (X.cI, 40, .inl tf))]) C (c_X4_isNonLiteral X.l X.D X.2.1 ht ta nl x) gX5_literal_X4_isNonLiteral rfl rfl rfl (by decide +kernel) (by decide) ⟨by first | decide | omega, by first | decide | omega⟩ 0 4 rfl rfl [1] [0, 2] rfl rfl (by decide) (by decide) (by decide) rfl rfl (Nat.le_of_ble_eq_true rfl) dX5_literal_5 rfl (fun v w1 hp => ?_)
  obtain ⟨rfl, rfl⟩ := hp
  show zW X 2 [(hc, .inr (5, [.ref ht, .ref hg, .ref hx, .ref hr, .ref hl, .ref hs])), (ta, .inl (X.cI, 40, .inl tf)), (ht, .inr (4, [.ref ta, .int (nI nl)]))] _ _ 8 _ [.int (zb (plainB x))]
  refine z_if_ne_b (q := 11) (tgt := 21) C dX5_literal_8 (by decide) rfl (fun c8 => ?_) (fun c8 => ?_)
  · skip
    refine z_aload_n (q := 22) C 0 rfl rfl dX5_literal_21 rfl ?_
    refine z_get (q := 25) (v := .ref ht) C hiX5 0 0 rfl rfl (by decide) hf10 rfl dX5_literal_22 rfl ?_
    refine z_callV (q := 28) (n := 0) (As := []) (rest := []) (wr := [(hc, .inr (5, [.ref ht, .ref hg, .ref hx, .ref hr, .ref hl, .ref hs]))]) C (c_X4_literals X.l X.D X.2.1 ht ta tf nl) gX5_literal_X4_literals rfl rfl rfl (by decide +kernel) (by decide) ⟨by first | decide | omega, by first | decide | omega⟩ 0 4 rfl rfl [2, 1] [0] rfl rfl (by decide) (by decide) (by decide) rfl rfl (Nat.le_of_ble_eq_true rfl) dX5_literal_25 rfl (fun v w1 hp => ?_)
    obtain ⟨rfl, rfl⟩ := hp
    show zW X 2 [(hc, .inr (5, [.ref ht, .ref hg, .ref hx, .ref hr, .ref hl, .ref hs])), (ht, .inr (4, [.ref ta, .int (nI nl)])), (ta, .inl (X.cI, 40, .inl tf))] _ _ 28 _ [.int (nI nl)]
    refine z_bipush (q := 30) C k_bipush_40 dX5_literal_28 rfl ?_
    refine z_icmp_lt_n (q := 33) (tgt := 43) C (by omega) (by omega) dX5_literal_30 (by decide) rfl (fun c30 => ?_) (fun c30 => ?_)
    · skip
      refine z_aload_n (q := 44) C 0 rfl rfl dX5_literal_43 rfl ?_
      refine z_get (q := 47) (v := .ref ht) C hiX5 0 0 rfl rfl (by decide) hf10 rfl dX5_literal_44 rfl ?_
      refine z_iload_n (q := 48) C 1 rfl rfl dX5_literal_47 rfl ?_
      refine z_callV (q := 51) (n := 1) (As := [.int x]) (rest := []) (wr := [(hc, .inr (5, [.ref ht, .ref hg, .ref hx, .ref hr, .ref hl, .ref hs]))]) C (c_X4_addLiteral X.l X.D X.2.1 ht ta tf nl c30 x) gX5_literal_X4_addLiteral rfl rfl rfl (by decide +kernel) (by decide) ⟨by first | decide | omega, by first | decide | omega⟩ 0 4 rfl rfl [1, 2] [0] rfl rfl (by decide) (by decide) (by decide) rfl rfl (Nat.le_of_ble_eq_true rfl) dX5_literal_48 rfl (fun v w1 hp => ?_)
      obtain ⟨rfl, rfl⟩ := hp
      show zW X 2 [(hc, .inr (5, [.ref ht, .ref hg, .ref hx, .ref hr, .ref hl, .ref hs])), (ht, .inr (4, [.ref ta, .int (nI (nl + 1))])), (ta, .inl (X.cI, 40, .inl (upd tf nl x)))] _ _ 51 _ [.int (nI (300 + (nl + 1) - 1))]
      refine z_iretX C E (by omega) (by omega) dX5_literal_51 ?_
      refine ⟨?_, ?_, rfl⟩
      · unfold cdLit
        rw [if_neg (by rw [c8]; decide), if_neg (by omega)]
      · rw [show 300 + (nl + 1) - 1 = 300 + nl by omega]
    · skip
      refine z_throw (cls := xIS) (text := _) (ik := 66) (is := 68) (ic := 70) C E hZ hTb hst (by decide +kernel) hk66 hn66 (List.mem_of_getElem? (i := 7) rfl) ha66 hB_70 hg_70 dX5_literal_33 dX5_literal_36 dX5_literal_37 dX5_literal_39 dX5_literal_42 (by decide) (Nat.le_of_ble_eq_true rfl) (by first | decide | omega) (by first | decide | omega) (by omega) (by omega) ?_
      exact ⟨Or.inr ⟨rfl, by unfold cdLit; rw [if_neg (by rw [c8]; decide), if_pos (by omega)]⟩, rfl⟩
  · skip
    refine z_ws (ws' := [(hc, .inr (5, [.ref ht, .ref hg, .ref hx, .ref hr, .ref hl, .ref hs])), (ht, .inr (4, [.ref ta, .int (nI nl)])), (ta, .inl (X.cI, 40, .inl tf))]) [0, 2, 1] (by decide) rfl ?_
    refine z_throw (cls := xIA) (text := _) (ik := 55) (is := 57) (ic := 59) C E hZ hTb hst (by decide +kernel) hk55 hn55 (List.mem_of_getElem? (i := 6) rfl) ha55 hB_59 hg_59 dX5_literal_11 dX5_literal_14 dX5_literal_15 dX5_literal_17 dX5_literal_20 (by decide) (Nat.le_of_ble_eq_true rfl) (by first | decide | omega) (by first | decide | omega) (by omega) (by omega) ?_
    exact ⟨Or.inl ⟨rfl, if_pos c8⟩, rfl⟩

set_option maxHeartbeats 4000000 in
set_option maxRecDepth 100000 in
theorem c_X5_triple (l : Launch) (hst : l.stackTraces = false) (D : va_G) (g : ClassId × ClassId × ClassId) (t : Nat × Nat) (hc ht hg hx hr hl hs : Nat) (ta nl : Nat) (hnl : nl ≤ 40) (b : Nat → Nat) (G : Nat → Nat → Int32) (k : Nat) (GL : List Row) (hG : givRep G k GL) (s p o : Int32) : zMX t l yX5_triple wsX5_triple ({ frames := 6, cells := 1, slots := 6, locals := 82 } : Room) D g [.ref hc, .int s, .int p, .int o] [(hc, .inr (5, [.ref ht, .ref hg, .ref hx, .ref hr, .ref hl, .ref hs])), (ht, .inr (4, [.ref ta, .int (nI nl)])), (hg, .inr (1, [.ref (b 0), .ref (b 1), .ref (b 2), .int (nI k)])), (b 0, .inl (g.1, 80, .inl (G 0))), (b 1, .inl (g.1, 80, .inl (G 1))), (b 2, .inl (g.1, 80, .inl (G 2)))] 1 6 (fun v w1 => cdTri nl GL s p o = 0 ∧ ∃ (G1 : Nat → Nat → Int32) (k1 : Nat), givRep G1 k1 (triL GL s p o) ∧ v = some (.int (nI k1)) ∧ w1 = [(hc, .inr (5, [.ref ht, .ref hg, .ref hx, .ref hr, .ref hl, .ref hs])), (ht, .inr (4, [.ref ta, .int (nI nl)])), (hg, .inr (1, [.ref (b 0), .ref (b 1), .ref (b 2), .int (nI k1)])), (b 0, .inl (g.1, 80, .inl (G1 0))), (b 1, .inl (g.1, 80, .inl (G1 1))), (b 2, .inl (g.1, 80, .inl (G1 2)))]) (fun E w1 => (E = xIA ∧ cdTri nl GL s p o = 1 ∨ E = xIS ∧ cdTri nl GL s p o = 2) ∧ w1 = [(hc, .inr (5, [.ref ht, .ref hg, .ref hx, .ref hr, .ref hl, .ref hs])), (ht, .inr (4, [.ref ta, .int (nI nl)])), (hg, .inr (1, [.ref (b 0), .ref (b 1), .ref (b 2), .int (nI k)])), (b 0, .inl (g.1, 80, .inl (G 0))), (b 1, .inl (g.1, 80, .inl (G 1))), (b 2, .inl (g.1, 80, .inl (G 2)))]) := by
  refine z_metX (cc := cX5_triple) (maxL := 4) (ret := (some .int)) (lv := [(0, .ref hc), (1, .int s), (2, .int p), (3, .int o)]) (by decide) rfl (Nat.le_of_ble_eq_true rfl) rfl ?_
  intro X hXD hXg hXl hnm C E hZ hTb
  subst hXD hXg hXl
  have C : zC X cX5_triple 4 RX5 wsX5_triple ({ frames := 6, cells := 1, slots := 6, locals := 82 } : Room) := C
  have hiX5 : ∀ w ∈ u_ws RX5 TX5 6, w ∈ wsX5_triple := by decide +kernel
  have hf19 : Cond.fieldLink RX5 19 "RdfsRules" "given" "LRdfsRules$GivenFacts;" ∈ wsX5_triple := by decide +kernel
  have hk55 : Cond.classLink RX5 55 xIA ∈ wsX5_triple := by decide +kernel
  have hn55 : Cond.initialized xIA ∈ wsX5_triple := by decide +kernel
  have ha55 : ∀ w ∈ (vx_atS RX5 59 xIA xNs).filter goodWord, w ∈ wsX5_triple := by first | exact fun w h => List.mem_cons_of_mem _ (List.mem_append_right _ h) | exact fun w h => List.mem_cons_of_mem _ (List.mem_append_left _ (List.mem_append_right _ h)) | decide +kernel
  have hk66 : Cond.classLink RX5 66 xIS ∈ wsX5_triple := by decide +kernel
  have hn66 : Cond.initialized xIS ∈ wsX5_triple := by decide +kernel
  have ha66 : ∀ w ∈ (vx_atS RX5 70 xIS xNs).filter goodWord, w ∈ wsX5_triple := by first | exact fun w h => List.mem_cons_of_mem _ (List.mem_append_right _ h) | exact fun w h => List.mem_cons_of_mem _ (List.mem_append_left _ (List.mem_append_right _ h)) | decide +kernel
  have hk8 := hG.le
  refine z_aload_n (q := 1) C 0 rfl rfl dX5_triple_0 rfl ?_
  refine z_iload_n (q := 2) C 1 rfl rfl dX5_triple_1 rfl ?_
  refine z_iload_n (q := 3) C 2 rfl rfl dX5_triple_2 rfl ?_
  refine z_iload_n (q := 4) C 3 rfl rfl dX5_triple_3 rfl ?_
  refine z_callV (q := 7) (n := 3) (As := [.int s, .int p, .int o]) (rest := []) (wr := [(hg, .inr (1, [.ref (b 0), .ref (b 1), .ref (b 2), .int (nI k)])), (b 0, .inl (X.cI, 80, .inl (G 0))), (b 1, .inl (X.cI, 80, .inl (G 1))), (b 2, .inl (X.cI, 80, .inl (G 2)))]) C (c_X5_mayBeFact X.l X.D X.2.1 hc ht hg hx hr hl hs ta nl hnl s p o) gX5_triple_X5_mayBeFact rfl rfl rfl (by decide +kernel) (by decide) ⟨by first | decide | omega, by first | decide | omega⟩ 0 5 rfl rfl [0, 1] [2, 3, 4, 5] rfl rfl (by decide) (by decide) (by decide) rfl rfl (Nat.le_of_ble_eq_true rfl) dX5_triple_4 rfl (fun v w1 hp => ?_)
  obtain ⟨rfl, rfl⟩ := hp
  show zW X 4 [(hg, .inr (1, [.ref (b 0), .ref (b 1), .ref (b 2), .int (nI k)])), (b 0, .inl (X.cI, 80, .inl (G 0))), (b 1, .inl (X.cI, 80, .inl (G 1))), (b 2, .inl (X.cI, 80, .inl (G 2))), (hc, .inr (5, [.ref ht, .ref hg, .ref hx, .ref hr, .ref hl, .ref hs])), (ht, .inr (4, [.ref ta, .int (nI nl)]))] _ _ 7 _ [.int (zb (factB nl s p o))]
  refine z_if_ne_b (q := 10) (tgt := 20) C dX5_triple_7 (by decide) rfl (fun c7 => ?_) (fun c7 => ?_)
  · skip
    refine z_aload_n (q := 21) C 0 rfl rfl dX5_triple_20 rfl ?_
    refine z_get (q := 24) (v := .ref hg) C hiX5 4 1 rfl rfl (by decide) hf19 rfl dX5_triple_21 rfl ?_
    refine z_iload_n (q := 25) C 1 rfl rfl dX5_triple_24 rfl ?_
    refine z_iload_n (q := 26) C 2 rfl rfl dX5_triple_25 rfl ?_
    refine z_iload_n (q := 27) C 3 rfl rfl dX5_triple_26 rfl ?_
    refine z_callV (q := 30) (n := 3) (As := [.int s, .int p, .int o]) (rest := []) (wr := [(hc, .inr (5, [.ref ht, .ref hg, .ref hx, .ref hr, .ref hl, .ref hs])), (ht, .inr (4, [.ref ta, .int (nI nl)]))]) C (c_X1_placeOf X.l X.D X.2.1 hg b G k GL hG s p o) gX5_triple_X1_placeOf rfl rfl rfl (by decide +kernel) (by decide) ⟨by first | decide | omega, by first | decide | omega⟩ 0 1 rfl rfl [0, 1, 2, 3] [4, 5] rfl rfl (by decide) (by decide) (by decide) rfl rfl (Nat.le_of_ble_eq_true rfl) dX5_triple_27 rfl (fun v w1 hp => ?_)
    obtain ⟨rfl, rfl⟩ := hp
    show zW X 4 [(hc, .inr (5, [.ref ht, .ref hg, .ref hx, .ref hr, .ref hl, .ref hs])), (ht, .inr (4, [.ref ta, .int (nI nl)])), (hg, .inr (1, [.ref (b 0), .ref (b 1), .ref (b 2), .int (nI k)])), (b 0, .inl (X.cI, 80, .inl (G 0))), (b 1, .inl (X.cI, 80, .inl (G 1))), (b 2, .inl (X.cI, 80, .inl (G 2)))] _ _ 30 _ [.int (findR GL s p o)]
    refine z_iconst (q := 31) C k_iconst_m1 dX5_triple_30 rfl ?_
    refine z_icmp_ne (q := 34) (tgt := 66) C dX5_triple_31 (by decide) rfl (fun c31 => ?_) (fun c31 => ?_)
    · skip
      refine z_aload_n (q := 67) C 0 rfl rfl dX5_triple_66 rfl ?_
      refine z_get (q := 70) (v := .ref hg) C hiX5 0 1 rfl rfl (by decide) hf19 rfl dX5_triple_67 rfl ?_
      refine z_callV (q := 73) (n := 0) (As := []) (rest := []) (wr := [(hc, .inr (5, [.ref ht, .ref hg, .ref hx, .ref hr, .ref hl, .ref hs])), (ht, .inr (4, [.ref ta, .int (nI nl)])), (b 0, .inl (X.cI, 80, .inl (G 0))), (b 1, .inl (X.cI, 80, .inl (G 1))), (b 2, .inl (X.cI, 80, .inl (G 2)))]) C (c_X1_size X.l X.D X.2.1 hg b k) gX5_triple_X1_size rfl rfl rfl (by decide +kernel) (by decide) ⟨by first | decide | omega, by first | decide | omega⟩ 0 1 rfl rfl [2] [0, 1, 3, 4, 5] rfl rfl (by decide) (by decide) (by decide) rfl rfl (Nat.le_of_ble_eq_true rfl) dX5_triple_70 rfl (fun v w1 hp => ?_)
      obtain ⟨rfl, rfl⟩ := hp
      show zW X 4 [(hc, .inr (5, [.ref ht, .ref hg, .ref hx, .ref hr, .ref hl, .ref hs])), (ht, .inr (4, [.ref ta, .int (nI nl)])), (b 0, .inl (X.cI, 80, .inl (G 0))), (b 1, .inl (X.cI, 80, .inl (G 1))), (b 2, .inl (X.cI, 80, .inl (G 2))), (hg, .inr (1, [.ref (b 0), .ref (b 1), .ref (b 2), .int (nI k)]))] _ _ 73 _ [.int (nI k)]
      refine z_ws (ws' := [(hc, .inr (5, [.ref ht, .ref hg, .ref hx, .ref hr, .ref hl, .ref hs])), (ht, .inr (4, [.ref ta, .int (nI nl)])), (hg, .inr (1, [.ref (b 0), .ref (b 1), .ref (b 2), .int (nI k)])), (b 0, .inl (X.cI, 80, .inl (G 0))), (b 1, .inl (X.cI, 80, .inl (G 1))), (b 2, .inl (X.cI, 80, .inl (G 2)))]) [0, 1, 5, 2, 3, 4] (by decide) rfl ?_
      refine z_iretX C E (by omega) (by omega) dX5_triple_73 ?_
      exact ⟨by unfold cdTri; rw [if_neg (by rw [c7]; decide), if_neg (fun z => c31 ((findR_m1 (by rw [hG.1]; omega)).mpr z.1))], G, k, by rw [show triL GL s p o = GL from if_pos (by cases e : hasF GL s p o with | true => rfl | false => exact absurd ((findR_m1 (by rw [hG.1]; omega)).mpr e) c31)]; exact hG, rfl, rfl⟩
    · skip
      refine z_aload_n (q := 35) C 0 rfl rfl dX5_triple_34 rfl ?_
      refine z_get (q := 38) (v := .ref hg) C hiX5 0 1 rfl rfl (by decide) hf19 rfl dX5_triple_35 rfl ?_
      refine z_callV (q := 41) (n := 0) (As := []) (rest := []) (wr := [(hc, .inr (5, [.ref ht, .ref hg, .ref hx, .ref hr, .ref hl, .ref hs])), (ht, .inr (4, [.ref ta, .int (nI nl)])), (b 0, .inl (X.cI, 80, .inl (G 0))), (b 1, .inl (X.cI, 80, .inl (G 1))), (b 2, .inl (X.cI, 80, .inl (G 2)))]) C (c_X1_size X.l X.D X.2.1 hg b k) gX5_triple_X1_size rfl rfl rfl (by decide +kernel) (by decide) ⟨by first | decide | omega, by first | decide | omega⟩ 0 1 rfl rfl [2] [0, 1, 3, 4, 5] rfl rfl (by decide) (by decide) (by decide) rfl rfl (Nat.le_of_ble_eq_true rfl) dX5_triple_38 rfl (fun v w1 hp => ?_)
      obtain ⟨rfl, rfl⟩ := hp
      show zW X 4 [(hc, .inr (5, [.ref ht, .ref hg, .ref hx, .ref hr, .ref hl, .ref hs])), (ht, .inr (4, [.ref ta, .int (nI nl)])), (b 0, .inl (X.cI, 80, .inl (G 0))), (b 1, .inl (X.cI, 80, .inl (G 1))), (b 2, .inl (X.cI, 80, .inl (G 2))), (hg, .inr (1, [.ref (b 0), .ref (b 1), .ref (b 2), .int (nI k)]))] _ _ 41 _ [.int (nI k)]
      refine z_bipush (q := 43) C k_bipush_80 dX5_triple_41 rfl ?_
      refine z_icmp_lt_n (q := 46) (tgt := 56) C (by omega) (by omega) dX5_triple_43 (by decide) rfl (fun c43 => ?_) (fun c43 => ?_)
      · skip
        refine z_aload_n (q := 57) C 0 rfl rfl dX5_triple_56 rfl ?_
        refine z_get (q := 60) (v := .ref hg) C hiX5 0 1 rfl rfl (by decide) hf19 rfl dX5_triple_57 rfl ?_
        refine z_iload_n (q := 61) C 1 rfl rfl dX5_triple_60 rfl ?_
        refine z_iload_n (q := 62) C 2 rfl rfl dX5_triple_61 rfl ?_
        refine z_iload_n (q := 63) C 3 rfl rfl dX5_triple_62 rfl ?_
        refine z_callV (q := 66) (n := 3) (As := [.int s, .int p, .int o]) (rest := []) (wr := [(hc, .inr (5, [.ref ht, .ref hg, .ref hx, .ref hr, .ref hl, .ref hs])), (ht, .inr (4, [.ref ta, .int (nI nl)]))]) C (c_X1_append X.l X.D X.2.1 hg b G k GL hG c43 s p o) gX5_triple_X1_append rfl rfl rfl (by decide +kernel) (by decide) ⟨by first | decide | omega, by first | decide | omega⟩ 0 1 rfl rfl [5, 2, 3, 4] [0, 1] rfl rfl (by decide) (by decide) (by decide) rfl rfl (Nat.le_of_ble_eq_true rfl) dX5_triple_63 rfl (fun v w1 hp => ?_)
        obtain ⟨G1, hG1, rfl, rfl⟩ := hp
        show zW X 4 [(hc, .inr (5, [.ref ht, .ref hg, .ref hx, .ref hr, .ref hl, .ref hs])), (ht, .inr (4, [.ref ta, .int (nI nl)])), (hg, .inr (1, [.ref (b 0), .ref (b 1), .ref (b 2), .int (nI (k + 1))])), (b 0, .inl (X.cI, 80, .inl (G1 0))), (b 1, .inl (X.cI, 80, .inl (G1 1))), (b 2, .inl (X.cI, 80, .inl (G1 2)))] _ _ 66 _ []
        refine z_aload_n (q := 67) C 0 rfl rfl dX5_triple_66 rfl ?_
        refine z_get (q := 70) (v := .ref hg) C hiX5 0 1 rfl rfl (by decide) hf19 rfl dX5_triple_67 rfl ?_
        refine z_callV (q := 73) (n := 0) (As := []) (rest := []) (wr := [(hc, .inr (5, [.ref ht, .ref hg, .ref hx, .ref hr, .ref hl, .ref hs])), (ht, .inr (4, [.ref ta, .int (nI nl)])), (b 0, .inl (X.cI, 80, .inl (G1 0))), (b 1, .inl (X.cI, 80, .inl (G1 1))), (b 2, .inl (X.cI, 80, .inl (G1 2)))]) C (c_X1_size X.l X.D X.2.1 hg b (k + 1)) gX5_triple_X1_size rfl rfl rfl (by decide +kernel) (by decide) ⟨by first | decide | omega, by first | decide | omega⟩ 0 1 rfl rfl [2] [0, 1, 3, 4, 5] rfl rfl (by decide) (by decide) (by decide) rfl rfl (Nat.le_of_ble_eq_true rfl) dX5_triple_70 rfl (fun v w1 hp => ?_)
        obtain ⟨rfl, rfl⟩ := hp
        show zW X 4 [(hc, .inr (5, [.ref ht, .ref hg, .ref hx, .ref hr, .ref hl, .ref hs])), (ht, .inr (4, [.ref ta, .int (nI nl)])), (b 0, .inl (X.cI, 80, .inl (G1 0))), (b 1, .inl (X.cI, 80, .inl (G1 1))), (b 2, .inl (X.cI, 80, .inl (G1 2))), (hg, .inr (1, [.ref (b 0), .ref (b 1), .ref (b 2), .int (nI (k + 1))]))] _ _ 73 _ [.int (nI (k + 1))]
        refine z_ws (ws' := [(hc, .inr (5, [.ref ht, .ref hg, .ref hx, .ref hr, .ref hl, .ref hs])), (ht, .inr (4, [.ref ta, .int (nI nl)])), (hg, .inr (1, [.ref (b 0), .ref (b 1), .ref (b 2), .int (nI (k + 1))])), (b 0, .inl (X.cI, 80, .inl (G1 0))), (b 1, .inl (X.cI, 80, .inl (G1 1))), (b 2, .inl (X.cI, 80, .inl (G1 2)))]) [0, 1, 5, 2, 3, 4] (by decide) rfl ?_
        refine z_iretX C E (by omega) (by omega) dX5_triple_73 ?_
        exact ⟨by unfold cdTri; rw [if_neg (by rw [c7]; decide), if_neg (fun z => by have := hG.1; omega)], G1, k + 1, by rw [show triL GL s p o = GL ++ [gRow s p o] from if_neg (by rw [(findR_m1 (by rw [hG.1]; omega)).mp c31]; decide)]; exact hG1, rfl, rfl⟩
      · skip
        refine z_ws (ws' := [(hc, .inr (5, [.ref ht, .ref hg, .ref hx, .ref hr, .ref hl, .ref hs])), (ht, .inr (4, [.ref ta, .int (nI nl)])), (hg, .inr (1, [.ref (b 0), .ref (b 1), .ref (b 2), .int (nI k)])), (b 0, .inl (X.cI, 80, .inl (G 0))), (b 1, .inl (X.cI, 80, .inl (G 1))), (b 2, .inl (X.cI, 80, .inl (G 2)))]) [0, 1, 5, 2, 3, 4] (by decide) rfl ?_
        refine z_throw (cls := xIS) (text := _) (ik := 66) (is := 88) (ic := 70) C E hZ hTb hst (by decide +kernel) hk66 hn66 (List.mem_of_getElem? (i := 9) rfl) ha66 hB_70 hg_70 dX5_triple_46 dX5_triple_49 dX5_triple_50 dX5_triple_52 dX5_triple_55 (by decide) (Nat.le_of_ble_eq_true rfl) (by first | decide | omega) (by first | decide | omega) (by omega) (by omega) ?_
        exact ⟨Or.inr ⟨rfl, by unfold cdTri; rw [if_neg (by rw [c7]; decide), if_pos ⟨(findR_m1 (by rw [hG.1]; omega)).mp c31, by rw [hG.1]; omega⟩]⟩, rfl⟩
  · skip
    refine z_ws (ws' := [(hc, .inr (5, [.ref ht, .ref hg, .ref hx, .ref hr, .ref hl, .ref hs])), (ht, .inr (4, [.ref ta, .int (nI nl)])), (hg, .inr (1, [.ref (b 0), .ref (b 1), .ref (b 2), .int (nI k)])), (b 0, .inl (X.cI, 80, .inl (G 0))), (b 1, .inl (X.cI, 80, .inl (G 1))), (b 2, .inl (X.cI, 80, .inl (G 2)))]) [4, 5, 0, 1, 2, 3] (by decide) rfl ?_
    refine z_throw (cls := xIA) (text := _) (ik := 55) (is := 79) (ic := 59) C E hZ hTb hst (by decide +kernel) hk55 hn55 (List.mem_of_getElem? (i := 8) rfl) ha55 hB_59 hg_59 dX5_triple_10 dX5_triple_13 dX5_triple_14 dX5_triple_16 dX5_triple_19 (by decide) (Nat.le_of_ble_eq_true rfl) (by first | decide | omega) (by first | decide | omega) (by omega) (by omega) ?_
    exact ⟨Or.inl ⟨rfl, if_pos c7⟩, rfl⟩

set_option maxHeartbeats 4000000 in
set_option maxRecDepth 100000 in
theorem c_X5_remove (l : Launch) (hst : l.stackTraces = false) (D : va_G) (g : ClassId × ClassId × ClassId) (t : Nat × Nat) (hc ht hg hx hr hl hs : Nat) (ta nl : Nat) (hnl : nl ≤ 40) (b : Nat → Nat) (G : Nat → Nat → Int32) (k : Nat) (GL : List Row) (hG : givRep G k GL) (mb ak : Bool) (cnt : Nat) (hcn : cnt ≤ 9) (s p o : Int32) : zMX t l yX5_remove wsX5_remove ({ frames := 6, cells := 1, slots := 6, locals := 82 } : Room) D g [.ref hc, .int s, .int p, .int o] [(hc, .inr (5, [.ref ht, .ref hg, .ref hx, .ref hr, .ref hl, .ref hs])), (ht, .inr (4, [.ref ta, .int (nI nl)])), (hg, .inr (1, [.ref (b 0), .ref (b 1), .ref (b 2), .int (nI k)])), (b 0, .inl (g.1, 80, .inl (G 0))), (b 1, .inl (g.1, 80, .inl (G 1))), (b 2, .inl (g.1, 80, .inl (G 2))), (hx, .inr (0, [.int (zb mb), .int (zb ak), .int (nI cnt)]))] 1 6 (fun v w1 => cdRem nl s p o = 0 ∧ ∃ (G1 : Nat → Nat → Int32) (k1 : Nat), givRep G1 k1 (remL GL s p o) ∧ v = some (.int (remV GL (axSz mb ak cnt) s p o)) ∧ w1 = [(hc, .inr (5, [.ref ht, .ref hg, .ref hx, .ref hr, .ref hl, .ref hs])), (ht, .inr (4, [.ref ta, .int (nI nl)])), (hg, .inr (1, [.ref (b 0), .ref (b 1), .ref (b 2), .int (nI k1)])), (b 0, .inl (g.1, 80, .inl (G1 0))), (b 1, .inl (g.1, 80, .inl (G1 1))), (b 2, .inl (g.1, 80, .inl (G1 2))), (hx, .inr (0, [.int (zb mb), .int (zb ak), .int (nI cnt)]))]) (fun E w1 => E = xIA ∧ cdRem nl s p o = 1 ∧ w1 = [(hc, .inr (5, [.ref ht, .ref hg, .ref hx, .ref hr, .ref hl, .ref hs])), (ht, .inr (4, [.ref ta, .int (nI nl)])), (hg, .inr (1, [.ref (b 0), .ref (b 1), .ref (b 2), .int (nI k)])), (b 0, .inl (g.1, 80, .inl (G 0))), (b 1, .inl (g.1, 80, .inl (G 1))), (b 2, .inl (g.1, 80, .inl (G 2))), (hx, .inr (0, [.int (zb mb), .int (zb ak), .int (nI cnt)]))]) := by
  refine z_metX (cc := cX5_remove) (maxL := 5) (ret := (some .int)) (lv := [(0, .ref hc), (1, .int s), (2, .int p), (3, .int o)]) (by decide) rfl (Nat.le_of_ble_eq_true rfl) rfl ?_
  intro X hXD hXg hXl hnm C E hZ hTb
  subst hXD hXg hXl
  have C : zC X cX5_remove 5 RX5 wsX5_remove ({ frames := 6, cells := 1, slots := 6, locals := 82 } : Room) := C
  have hiX5 : ∀ w ∈ u_ws RX5 TX5 6, w ∈ wsX5_remove := by decide +kernel
  have hf19 : Cond.fieldLink RX5 19 "RdfsRules" "given" "LRdfsRules$GivenFacts;" ∈ wsX5_remove := by decide +kernel
  have hf28 : Cond.fieldLink RX5 28 "RdfsRules" "axiomSet" "LRdfsRules$Axioms;" ∈ wsX5_remove := by decide +kernel
  have hk55 : Cond.classLink RX5 55 xIA ∈ wsX5_remove := by decide +kernel
  have hn55 : Cond.initialized xIA ∈ wsX5_remove := by decide +kernel
  have ha55 : ∀ w ∈ (vx_atS RX5 59 xIA xNs).filter goodWord, w ∈ wsX5_remove := by first | exact fun w h => List.mem_cons_of_mem _ (List.mem_append_right _ h) | exact fun w h => List.mem_cons_of_mem _ (List.mem_append_left _ (List.mem_append_right _ h)) | decide +kernel
  have hk8 := hG.le
  refine z_aload_n (q := 1) C 0 rfl rfl dX5_remove_0 rfl ?_
  refine z_iload_n (q := 2) C 1 rfl rfl dX5_remove_1 rfl ?_
  refine z_iload_n (q := 3) C 2 rfl rfl dX5_remove_2 rfl ?_
  refine z_iload_n (q := 4) C 3 rfl rfl dX5_remove_3 rfl ?_
  refine z_callV (q := 7) (n := 3) (As := [.int s, .int p, .int o]) (rest := []) (wr := [(hg, .inr (1, [.ref (b 0), .ref (b 1), .ref (b 2), .int (nI k)])), (b 0, .inl (X.cI, 80, .inl (G 0))), (b 1, .inl (X.cI, 80, .inl (G 1))), (b 2, .inl (X.cI, 80, .inl (G 2))), (hx, .inr (0, [.int (zb mb), .int (zb ak), .int (nI cnt)]))]) C (c_X5_mayBeFact X.l X.D X.2.1 hc ht hg hx hr hl hs ta nl hnl s p o) gX5_remove_X5_mayBeFact rfl rfl rfl (by decide +kernel) (by decide) ⟨by first | decide | omega, by first | decide | omega⟩ 0 5 rfl rfl [0, 1] [2, 3, 4, 5, 6] rfl rfl (by decide) (by decide) (by decide) rfl rfl (Nat.le_of_ble_eq_true rfl) dX5_remove_4 rfl (fun v w1 hp => ?_)
  obtain ⟨rfl, rfl⟩ := hp
  show zW X 5 [(hg, .inr (1, [.ref (b 0), .ref (b 1), .ref (b 2), .int (nI k)])), (b 0, .inl (X.cI, 80, .inl (G 0))), (b 1, .inl (X.cI, 80, .inl (G 1))), (b 2, .inl (X.cI, 80, .inl (G 2))), (hx, .inr (0, [.int (zb mb), .int (zb ak), .int (nI cnt)])), (hc, .inr (5, [.ref ht, .ref hg, .ref hx, .ref hr, .ref hl, .ref hs])), (ht, .inr (4, [.ref ta, .int (nI nl)]))] _ _ 7 _ [.int (zb (factB nl s p o))]
  refine z_if_ne_b (q := 10) (tgt := 20) C dX5_remove_7 (by decide) rfl (fun c7 => ?_) (fun c7 => ?_)
  · skip
    refine z_aload_n (q := 21) C 0 rfl rfl dX5_remove_20 rfl ?_
    refine z_get (q := 24) (v := .ref hg) C hiX5 5 1 rfl rfl (by decide) hf19 rfl dX5_remove_21 rfl ?_
    refine z_iload_n (q := 25) C 1 rfl rfl dX5_remove_24 rfl ?_
    refine z_iload_n (q := 26) C 2 rfl rfl dX5_remove_25 rfl ?_
    refine z_iload_n (q := 27) C 3 rfl rfl dX5_remove_26 rfl ?_
    refine z_callV (q := 30) (n := 3) (As := [.int s, .int p, .int o]) (rest := []) (wr := [(hx, .inr (0, [.int (zb mb), .int (zb ak), .int (nI cnt)])), (hc, .inr (5, [.ref ht, .ref hg, .ref hx, .ref hr, .ref hl, .ref hs])), (ht, .inr (4, [.ref ta, .int (nI nl)]))]) C (c_X1_placeOf X.l X.D X.2.1 hg b G k GL hG s p o) gX5_remove_X1_placeOf rfl rfl rfl (by decide +kernel) (by decide) ⟨by first | decide | omega, by first | decide | omega⟩ 0 1 rfl rfl [0, 1, 2, 3] [4, 5, 6] rfl rfl (by decide) (by decide) (by decide) rfl rfl (Nat.le_of_ble_eq_true rfl) dX5_remove_27 rfl (fun v w1 hp => ?_)
    obtain ⟨rfl, rfl⟩ := hp
    show zW X 5 [(hx, .inr (0, [.int (zb mb), .int (zb ak), .int (nI cnt)])), (hc, .inr (5, [.ref ht, .ref hg, .ref hx, .ref hr, .ref hl, .ref hs])), (ht, .inr (4, [.ref ta, .int (nI nl)])), (hg, .inr (1, [.ref (b 0), .ref (b 1), .ref (b 2), .int (nI k)])), (b 0, .inl (X.cI, 80, .inl (G 0))), (b 1, .inl (X.cI, 80, .inl (G 1))), (b 2, .inl (X.cI, 80, .inl (G 2)))] _ _ 30 _ [.int (findR GL s p o)]
    refine z_istore (q := 32) (lv' := [(4, .int (findR GL s p o)), (0, .ref hc), (1, .int s), (2, .int p), (3, .int o)]) C dX5_remove_30 rfl (by decide) rfl ?_
    refine z_iload (q := 34) C 0 rfl dX5_remove_32 rfl ?_
    refine z_iconst (q := 35) C k_iconst_m1 dX5_remove_34 rfl ?_
    refine z_icmp_eq (q := 38) (tgt := 49) C dX5_remove_35 (by decide) rfl (fun c35 => ?_) (fun c35 => ?_)
    · skip
      refine z_aload_n (q := 50) C 1 rfl rfl dX5_remove_49 rfl ?_
      refine z_get (q := 53) (v := .ref hx) C hiX5 1 2 rfl rfl (by decide) hf28 rfl dX5_remove_50 rfl ?_
      refine z_iload_n (q := 54) C 2 rfl rfl dX5_remove_53 rfl ?_
      refine z_iload_n (q := 55) C 3 rfl rfl dX5_remove_54 rfl ?_
      refine z_iload_n (q := 56) C 4 rfl rfl dX5_remove_55 rfl ?_
      refine z_callVZ (q := 59) (n := 3) (As := [.int s, .int p, .int o]) (rest := []) (wr := [(hc, .inr (5, [.ref ht, .ref hg, .ref hx, .ref hr, .ref hl, .ref hs])), (ht, .inr (4, [.ref ta, .int (nI nl)])), (hg, .inr (1, [.ref (b 0), .ref (b 1), .ref (b 2), .int (nI k)])), (b 0, .inl (X.cI, 80, .inl (G 0))), (b 1, .inl (X.cI, 80, .inl (G 1))), (b 2, .inl (X.cI, 80, .inl (G 2)))]) C hZ (c_X0_contains X.l X.D X.2.1 t hx mb ak cnt hcn s p o) gX5_remove_X0_contains rfl rfl rfl (by decide +kernel) (by decide) ⟨by first | decide | omega, by first | decide | omega⟩ 0 0 rfl rfl [0] [1, 2, 3, 4, 5, 6] rfl rfl (by decide) (by decide) (by decide) rfl rfl (Nat.le_of_ble_eq_true rfl) dX5_remove_56 rfl (fun v w1 hp => ?_)
      obtain ⟨rfl, rfl⟩ := hp
      show zW X 5 [(hc, .inr (5, [.ref ht, .ref hg, .ref hx, .ref hr, .ref hl, .ref hs])), (ht, .inr (4, [.ref ta, .int (nI nl)])), (hg, .inr (1, [.ref (b 0), .ref (b 1), .ref (b 2), .int (nI k)])), (b 0, .inl (X.cI, 80, .inl (G 0))), (b 1, .inl (X.cI, 80, .inl (G 1))), (b 2, .inl (X.cI, 80, .inl (G 2))), (hx, .inr (0, [.int (zb mb), .int (zb ak), .int (nI cnt)]))] _ _ 59 _ [.int (zb (axHas s p o (axSz mb ak cnt)))]
      refine z_if_eq_b (q := 62) (tgt := 66) C dX5_remove_59 (by decide) rfl (fun c59 => ?_) (fun c59 => ?_)
      · skip
        refine z_iconst (q := 67) C k_iconst_0 dX5_remove_66 rfl ?_
        refine z_iretX C E (by omega) (by omega) dX5_remove_67 ?_
        have hh : hasF GL s p o = false := (findR_m1 (by rw [hG.1]; omega)).mp c35
        refine ⟨by unfold cdRem; rw [if_neg (by rw [c7]; decide)], G, k, ?_, ?_, rfl⟩
        · rw [show remL GL s p o = GL by unfold remL; split; rename_i i hi; exact absurd (List.findIdx?_eq_some_iff_getElem.mp hi) (fun z => by obtain ⟨h1, h2, -⟩ := z; unfold hasF at hh; exact absurd (List.any_eq_true.mpr ⟨_, List.getElem_mem h1, h2⟩) (by rw [hh]; decide)); rfl]; exact hG
        · unfold remV
          rw [if_neg (by rw [hh]; decide), if_neg (by rw [c59]; decide)]
      · skip
        refine z_iconst (q := 63) C k_iconst_2 dX5_remove_62 rfl ?_
        refine z_goto (tgt := 67) C dX5_remove_63 (by decide) ?_
        refine z_iretX C E (by omega) (by omega) dX5_remove_67 ?_
        have hh : hasF GL s p o = false := (findR_m1 (by rw [hG.1]; omega)).mp c35
        refine ⟨by unfold cdRem; rw [if_neg (by rw [c7]; decide)], G, k, ?_, ?_, rfl⟩
        · rw [show remL GL s p o = GL by unfold remL; split; rename_i i hi; exact absurd (List.findIdx?_eq_some_iff_getElem.mp hi) (fun z => by obtain ⟨h1, h2, -⟩ := z; unfold hasF at hh; exact absurd (List.any_eq_true.mpr ⟨_, List.getElem_mem h1, h2⟩) (by rw [hh]; decide)); rfl]; exact hG
        · unfold remV
          rw [if_neg (by rw [hh]; decide), if_pos c59]
    · skip
      obtain ⟨i, hi, hfi, ei⟩ := findR_ne c35
      have hik : i < k := by rw [← hG.1]; exact hi
      rw [ei]
      refine z_aload_n (q := 39) C 1 rfl rfl dX5_remove_38 rfl ?_
      refine z_get (q := 42) (v := .ref hg) C hiX5 1 1 rfl rfl (by decide) hf19 rfl dX5_remove_39 rfl ?_
      refine z_iload (q := 44) C 0 rfl dX5_remove_42 rfl ?_
      refine z_callV (q := 47) (n := 1) (As := [.int (nI i)]) (rest := []) (wr := [(hx, .inr (0, [.int (zb mb), .int (zb ak), .int (nI cnt)])), (hc, .inr (5, [.ref ht, .ref hg, .ref hx, .ref hr, .ref hl, .ref hs])), (ht, .inr (4, [.ref ta, .int (nI nl)]))]) C (c_X1_dropAt X.l X.D X.2.1 hg b G k GL hG i hik) gX5_remove_X1_dropAt rfl rfl rfl (by decide +kernel) (by decide) ⟨by first | decide | omega, by first | decide | omega⟩ 0 1 rfl rfl [3, 4, 5, 6] [0, 1, 2] rfl rfl (by decide) (by decide) (by decide) rfl rfl (Nat.le_of_ble_eq_true rfl) dX5_remove_44 rfl (fun v w1 hp => ?_)
      obtain ⟨G1, hG1, rfl, rfl⟩ := hp
      show zW X 5 [(hx, .inr (0, [.int (zb mb), .int (zb ak), .int (nI cnt)])), (hc, .inr (5, [.ref ht, .ref hg, .ref hx, .ref hr, .ref hl, .ref hs])), (ht, .inr (4, [.ref ta, .int (nI nl)])), (hg, .inr (1, [.ref (b 0), .ref (b 1), .ref (b 2), .int (nI (k - 1))])), (b 0, .inl (X.cI, 80, .inl (G1 0))), (b 1, .inl (X.cI, 80, .inl (G1 1))), (b 2, .inl (X.cI, 80, .inl (G1 2)))] _ _ 47 _ []
      refine z_ws (ws' := [(hc, .inr (5, [.ref ht, .ref hg, .ref hx, .ref hr, .ref hl, .ref hs])), (ht, .inr (4, [.ref ta, .int (nI nl)])), (hg, .inr (1, [.ref (b 0), .ref (b 1), .ref (b 2), .int (nI (k - 1))])), (b 0, .inl (X.cI, 80, .inl (G1 0))), (b 1, .inl (X.cI, 80, .inl (G1 1))), (b 2, .inl (X.cI, 80, .inl (G1 2))), (hx, .inr (0, [.int (zb mb), .int (zb ak), .int (nI cnt)]))]) [1, 2, 3, 4, 5, 6, 0] (by decide) rfl ?_
      refine z_iconst (q := 48) C k_iconst_1 dX5_remove_47 rfl ?_
      refine z_iretX C E (by omega) (by omega) dX5_remove_48 ?_
      have hh : hasF GL s p o = true := by cases e : hasF GL s p o with | true => rfl | false => exact absurd ((findR_m1 (by rw [hG.1]; omega)).mpr e) (by rw [ei]; exact nI_nm1 (by omega))
      exact ⟨by unfold cdRem; rw [if_neg (by rw [c7]; decide)], G1, k - 1, by rw [show remL GL s p o = GL.eraseIdx i by unfold remL; rw [hfi]]; exact hG1, by rw [show remV GL (axSz mb ak cnt) s p o = nI 1 from if_pos hh], rfl⟩
  · skip
    refine z_ws (ws' := [(hc, .inr (5, [.ref ht, .ref hg, .ref hx, .ref hr, .ref hl, .ref hs])), (ht, .inr (4, [.ref ta, .int (nI nl)])), (hg, .inr (1, [.ref (b 0), .ref (b 1), .ref (b 2), .int (nI k)])), (b 0, .inl (X.cI, 80, .inl (G 0))), (b 1, .inl (X.cI, 80, .inl (G 1))), (b 2, .inl (X.cI, 80, .inl (G 2))), (hx, .inr (0, [.int (zb mb), .int (zb ak), .int (nI cnt)]))]) [5, 6, 0, 1, 2, 3, 4] (by decide) rfl ?_
    refine z_throw (cls := xIA) (text := _) (ik := 55) (is := 79) (ic := 59) C E hZ hTb hst (by decide +kernel) hk55 hn55 (List.mem_of_getElem? (i := 8) rfl) ha55 hB_59 hg_59 dX5_remove_10 dX5_remove_13 dX5_remove_14 dX5_remove_16 dX5_remove_19 (by decide) (Nat.le_of_ble_eq_true rfl) (by first | decide | omega) (by first | decide | omega) (by omega) (by omega) ?_
    exact ⟨rfl, if_pos c7, rfl⟩

set_option maxHeartbeats 4000000 in
set_option maxRecDepth 100000 in
theorem c_X5_axioms (l : Launch) (D : va_G) (g : ClassId × ClassId × ClassId) (hc ht hg hx hr hl hs : Nat) (mb ak : Bool) (cnt : Nat) (b : Bool) : zM l yX5_axioms wsX5_axioms ({ frames := 1, cells := 0, slots := 0, locals := 21 } : Room) D g [.ref hc, .int (zb b)] [(hc, .inr (5, [.ref ht, .ref hg, .ref hx, .ref hr, .ref hl, .ref hs])), (hx, .inr (0, [.int (zb mb), .int (zb ak), .int (nI cnt)]))] 0 0 (fun v w1 => v = none ∧ w1 = [(hc, .inr (5, [.ref ht, .ref hg, .ref hx, .ref hr, .ref hl, .ref hs])), (hx, .inr (0, [.int (zb mb), .int (zb b), .int (nI cnt)]))]) := by
  refine z_met (cc := cX5_axioms) (maxL := 2) (ret := none) (lv := [(0, .ref hc), (1, .int (zb b))]) (by decide) rfl (Nat.le_of_ble_eq_true rfl) rfl ?_
  intro X hXD hXg hXl hnm C E
  subst hXD hXg hXl
  have C : zC X cX5_axioms 2 RX5 wsX5_axioms ({ frames := 1, cells := 0, slots := 0, locals := 21 } : Room) := C
  have hiX5 : ∀ w ∈ u_ws RX5 TX5 6, w ∈ wsX5_axioms := by decide +kernel
  have hf28 : Cond.fieldLink RX5 28 "RdfsRules" "axiomSet" "LRdfsRules$Axioms;" ∈ wsX5_axioms := by decide +kernel
  refine z_aload_n (q := 1) C 0 rfl rfl dX5_axioms_0 rfl ?_
  refine z_get (q := 4) (v := .ref hx) C hiX5 0 2 rfl rfl (by decide) hf28 rfl dX5_axioms_1 rfl ?_
  refine z_iload_n (q := 5) C 1 rfl rfl dX5_axioms_4 rfl ?_
  refine z_callV (q := 8) (n := 1) (As := [.int (zb b)]) (rest := []) (wr := [(hc, .inr (5, [.ref ht, .ref hg, .ref hx, .ref hr, .ref hl, .ref hs]))]) C (c_X0_ask X.l X.D X.2.1 hx mb ak cnt b) gX5_axioms_X0_ask rfl rfl rfl (by decide +kernel) (by decide) ⟨by first | decide | omega, by first | decide | omega⟩ 0 0 rfl rfl [1] [0] rfl rfl (by decide) (by decide) (by decide) rfl rfl (Nat.le_of_ble_eq_true rfl) dX5_axioms_5 rfl (fun v w1 hp => ?_)
  obtain ⟨rfl, rfl⟩ := hp
  show zW X 2 [(hc, .inr (5, [.ref ht, .ref hg, .ref hx, .ref hr, .ref hl, .ref hs])), (hx, .inr (0, [.int (zb mb), .int (zb b), .int (nI cnt)]))] _ _ 8 _ []
  refine z_vret C E (by omega) (by omega) dX5_axioms_8 ?_
  exact ⟨rfl, rfl⟩

set_option maxHeartbeats 4000000 in
set_option maxRecDepth 100000 in
theorem c_X5_count (l : Launch) (hst : l.stackTraces = false) (D : va_G) (g : ClassId × ClassId × ClassId) (t : Nat × Nat) (hc ht hg hx hr hl hs : Nat) (mb ak : Bool) (cnt : Nat) (x : Int32) : zMX t l yX5_count wsX5_count ({ frames := 6, cells := 1, slots := 6, locals := 82 } : Room) D g [.ref hc, .int x] [(hc, .inr (5, [.ref ht, .ref hg, .ref hx, .ref hr, .ref hl, .ref hs])), (hx, .inr (0, [.int (zb mb), .int (zb ak), .int (nI cnt)]))] 1 6 (fun v w1 => cdCnt x = 0 ∧ ∃ j, j ≤ 9 ∧ x = nI j ∧ v = none ∧ w1 = [(hc, .inr (5, [.ref ht, .ref hg, .ref hx, .ref hr, .ref hl, .ref hs])), (hx, .inr (0, [.int (zb mb), .int (zb ak), .int (nI j)]))]) (fun E w1 => E = xIA ∧ cdCnt x = 1 ∧ w1 = [(hc, .inr (5, [.ref ht, .ref hg, .ref hx, .ref hr, .ref hl, .ref hs])), (hx, .inr (0, [.int (zb mb), .int (zb ak), .int (nI cnt)]))]) := by
  refine z_metX (cc := cX5_count) (maxL := 2) (ret := none) (lv := [(0, .ref hc), (1, .int x)]) (by decide) rfl (Nat.le_of_ble_eq_true rfl) rfl ?_
  intro X hXD hXg hXl hnm C E hZ hTb
  subst hXD hXg hXl
  have C : zC X cX5_count 2 RX5 wsX5_count ({ frames := 6, cells := 1, slots := 6, locals := 82 } : Room) := C
  have hiX5 : ∀ w ∈ u_ws RX5 TX5 6, w ∈ wsX5_count := by decide +kernel
  have hf28 : Cond.fieldLink RX5 28 "RdfsRules" "axiomSet" "LRdfsRules$Axioms;" ∈ wsX5_count := by decide +kernel
  have hk55 : Cond.classLink RX5 55 xIA ∈ wsX5_count := by decide +kernel
  have hn55 : Cond.initialized xIA ∈ wsX5_count := by decide +kernel
  have ha55 : ∀ w ∈ (vx_atS RX5 59 xIA xNs).filter goodWord, w ∈ wsX5_count := by first | exact fun w h => List.mem_cons_of_mem _ (List.mem_append_right _ h) | exact fun w h => List.mem_cons_of_mem _ (List.mem_append_left _ (List.mem_append_right _ h)) | decide +kernel
  refine z_iload_n (q := 1) C 1 rfl rfl dX5_count_0 rfl ?_
  refine z_if_lt_i (q := 4) (tgt := 10) C rfl dX5_count_1 (by decide) rfl (fun c1 => ?_) (fun c1 => ?_)
  · skip
    refine z_throw (cls := xIA) (text := _) (ik := 55) (is := 104) (ic := 59) C E hZ hTb hst (by decide +kernel) hk55 hn55 (List.mem_of_getElem? (i := 0) rfl) ha55 hB_59 hg_59 dX5_count_10 dX5_count_13 dX5_count_14 dX5_count_16 dX5_count_19 (by decide) (Nat.le_of_ble_eq_true rfl) (by first | decide | omega) (by first | decide | omega) (by omega) (by omega) ?_
    exact ⟨rfl, if_neg (by omega), rfl⟩
  · skip
    refine z_iload_n (q := 5) C 1 rfl rfl dX5_count_4 rfl ?_
    refine z_bipush (q := 7) C k_bipush_9 dX5_count_5 rfl ?_
    refine z_icmp_le_i (q := 10) (tgt := 20) C rfl ti_9 dX5_count_7 (by decide) rfl (fun c7 => ?_) (fun c7 => ?_)
    · skip
      obtain ⟨j, hj, rfl⟩ := i_of 9 c1 c7
      refine z_aload_n (q := 21) C 0 rfl rfl dX5_count_20 rfl ?_
      refine z_get (q := 24) (v := .ref hx) C hiX5 0 2 rfl rfl (by decide) hf28 rfl dX5_count_21 rfl ?_
      refine z_iload_n (q := 25) C 1 rfl rfl dX5_count_24 rfl ?_
      refine z_callV (q := 28) (n := 1) (As := [.int (nI j)]) (rest := []) (wr := [(hc, .inr (5, [.ref ht, .ref hg, .ref hx, .ref hr, .ref hl, .ref hs]))]) C (c_X0_setCount X.l X.D X.2.1 hx mb ak cnt j) gX5_count_X0_setCount rfl rfl rfl (by decide +kernel) (by decide) ⟨by first | decide | omega, by first | decide | omega⟩ 0 0 rfl rfl [1] [0] rfl rfl (by decide) (by decide) (by decide) rfl rfl (Nat.le_of_ble_eq_true rfl) dX5_count_25 rfl (fun v w1 hp => ?_)
      obtain ⟨rfl, rfl⟩ := hp
      show zW X 2 [(hc, .inr (5, [.ref ht, .ref hg, .ref hx, .ref hr, .ref hl, .ref hs])), (hx, .inr (0, [.int (zb mb), .int (zb ak), .int (nI j)]))] _ _ 28 _ []
      refine z_vretX C E (by omega) (by omega) dX5_count_28 ?_
      exact ⟨if_pos ⟨c1, c7⟩, j, hj, rfl, rfl, rfl⟩
    · skip
      refine z_throw (cls := xIA) (text := _) (ik := 55) (is := 104) (ic := 59) C E hZ hTb hst (by decide +kernel) hk55 hn55 (List.mem_of_getElem? (i := 0) rfl) ha55 hB_59 hg_59 dX5_count_10 dX5_count_13 dX5_count_14 dX5_count_16 dX5_count_19 (by decide) (Nat.le_of_ble_eq_true rfl) (by first | decide | omega) (by first | decide | omega) (by omega) (by omega) ?_
      exact ⟨rfl, if_neg (by omega), rfl⟩
