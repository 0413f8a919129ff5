set_option maxHeartbeats 4000000 in
set_option maxRecDepth 100000 in
theorem l_X2_applyToSingles {X : zX} (hr ht : Nat) (sp en : Nat) (rd : Int32) (rule : Nat) (ta nl : Nat) (hnl : nl ≤ 40) (tf : Nat → Int32) (h : Nat) (a : Nat → Nat) (am : Int32) (S : RSt) (L : List Row) (hL : L.length = en) (hS : stp (L, false) S) (hru : rule = 0 ∨ rule = 1 ∨ rule = 4 ∨ rule = 6 ∨ rule = 8 ∨ rule = 10 ∨ rule = 12 ∨ rule = 13) (C : zC X cX2_applyToSingles 2 RX2 wsX2_applyToSingles ({ frames := 4, cells := 0, slots := 0, locals := 100 } : Room)) (E : zE X none 0 0 (fun v w1 => ∃ (F1 : Nat → Nat → Int32) (n1 : Nat) (o1 : Bool) (x1 : Int32), rowsRep F1 n1 o1 (singN nl tf L rule rd S en) ∧ v = none ∧ w1 = [(hr, .inr (2, [.ref ht, .ref h, .int (nI sp), .int (nI en), .int rd, .int (nI rule), .int x1, .int (-1)])), (ht, .inr (4, [.ref ta, .int (nI nl)])), (ta, .inl (X.cI, 40, .inl tf)), (h, .inr (3, [.ref (a 0), .ref (a 1), .ref (a 2), .ref (a 3), .ref (a 4), .ref (a 5), .ref (a 6), .ref (a 7), .ref (a 8), .int (nI n1), .int (zb o1), .int am])), (a 0, .inl (X.cI, 600, .inl (F1 0))), (a 1, .inl (X.cI, 600, .inl (F1 1))), (a 2, .inl (X.cI, 600, .inl (F1 2))), (a 3, .inl (X.cI, 600, .inl (F1 3))), (a 4, .inl (X.cI, 600, .inl (F1 4))), (a 5, .inl (X.cI, 600, .inl (F1 5))), (a 6, .inl (X.cI, 600, .inl (F1 6))), (a 7, .inl (X.cI, 1024, .inl (F1 7))), (a 8, .inl (X.cZ, 600, .inl (F1 8)))])) : ∀ (m : Nat) (i : Nat) (F : Nat → Nat → Int32) (n : Nat) (ov : Bool) (x1 : Int32), sp ≤ i → i ≤ en → en < i + m → rowsRep F n ov (singN nl tf L rule rd S i) → zW X 2 [(hr, .inr (2, [.ref ht, .ref h, .int (nI sp), .int (nI en), .int rd, .int (nI rule), .int x1, .int (-1)])), (ht, .inr (4, [.ref ta, .int (nI nl)])), (ta, .inl (X.cI, 40, .inl tf)), (h, .inr (3, [.ref (a 0), .ref (a 1), .ref (a 2), .ref (a 3), .ref (a 4), .ref (a 5), .ref (a 6), .ref (a 7), .ref (a 8), .int (nI n), .int (zb ov), .int am])), (a 0, .inl (X.cI, 600, .inl (F 0))), (a 1, .inl (X.cI, 600, .inl (F 1))), (a 2, .inl (X.cI, 600, .inl (F 2))), (a 3, .inl (X.cI, 600, .inl (F 3))), (a 4, .inl (X.cI, 600, .inl (F 4))), (a 5, .inl (X.cI, 600, .inl (F 5))), (a 6, .inl (X.cI, 600, .inl (F 6))), (a 7, .inl (X.cI, 1024, .inl (F 7))), (a 8, .inl (X.cZ, 600, .inl (F 8)))] 0 0 10 [(0, .ref hr), (1, .int (nI i))] [] := by
  have hiX2 : ∀ w ∈ u_ws RX2 TX2 8, w ∈ wsX2_applyToSingles := by decide +kernel
  have hiX3 : ∀ w ∈ u_ws RX3 TX3 12, w ∈ wsX2_applyToSingles := by decide +kernel
  have hf15 : Cond.fieldLink RX2 15 "RdfsRules$Reasoner" "end" "I" ∈ wsX2_applyToSingles := by decide +kernel
  have hf24 : Cond.fieldLink RX2 24 "RdfsRules$Reasoner" "first" "I" ∈ wsX2_applyToSingles := by decide +kernel
  have hf34 : Cond.fieldLink RX2 34 "RdfsRules$Reasoner" "rows" "LRdfsRules$Rows;" ∈ wsX2_applyToSingles := by decide +kernel
  have hf57 : Cond.fieldLink RX2 57 "RdfsRules$Rows" "subjects" "[I" ∈ wsX2_applyToSingles := by decide +kernel
  have hf61 : Cond.fieldLink RX2 61 "RdfsRules$Rows" "objects" "[I" ∈ wsX2_applyToSingles := by decide +kernel
  have hf64 : Cond.fieldLink RX2 64 "RdfsRules$Rows" "properties" "[I" ∈ wsX2_applyToSingles := by decide +kernel
  intro m
  induction m with
  | zero =>
    intro i F n ov x1 hsi hi hm hR
    exfalso
    omega
  | succ m ih =>
    intro i F n ov x1 hsi hi hm hR
    have hst := hS.tr (singN_stp (nl := nl) (f := tf) (L := L) (rule := rule) (rd := rd) S i)
    have hle := hst.len
    have hnn := hR.1
    have hn6 := hR.le
    have hen : en ≤ n := by rw [← hL, ← hnn]; exact hle
    refine z_iload_n (q := 11) C 1 rfl rfl dX2_applyToSingles_10 rfl ?_
    refine z_aload_n (q := 12) C 0 rfl rfl dX2_applyToSingles_11 rfl ?_
    refine z_get (q := 15) (v := .int (nI en)) C hiX2 0 3 rfl rfl (by decide) hf15 rfl dX2_applyToSingles_12 rfl ?_
    refine z_icmp_ge_n (q := 18) (tgt := 60) C (by omega) (by omega) dX2_applyToSingles_15 (by decide) rfl (fun c15 => ?_) (fun c15 => ?_)
    · skip
      refine z_vret C E (by omega) (by omega) dX2_applyToSingles_60 ?_
      obtain rfl : i = en := by omega
      exact ⟨F, n, ov, x1, hR, rfl, rfl⟩
    · skip
      refine z_aload_n (q := 19) C 0 rfl rfl dX2_applyToSingles_18 rfl ?_
      refine z_iload_n (q := 20) C 1 rfl rfl dX2_applyToSingles_19 rfl ?_
      refine z_put (q := 23) (ws' := [(hr, .inr (2, [.ref ht, .ref h, .int (nI sp), .int (nI en), .int rd, .int (nI rule), .int (nI i), .int (-1)])), (ht, .inr (4, [.ref ta, .int (nI nl)])), (ta, .inl (X.cI, 40, .inl tf)), (h, .inr (3, [.ref (a 0), .ref (a 1), .ref (a 2), .ref (a 3), .ref (a 4), .ref (a 5), .ref (a 6), .ref (a 7), .ref (a 8), .int (nI n), .int (zb ov), .int am])), (a 0, .inl (X.cI, 600, .inl (F 0))), (a 1, .inl (X.cI, 600, .inl (F 1))), (a 2, .inl (X.cI, 600, .inl (F 2))), (a 3, .inl (X.cI, 600, .inl (F 3))), (a 4, .inl (X.cI, 600, .inl (F 4))), (a 5, .inl (X.cI, 600, .inl (F 5))), (a 6, .inl (X.cI, 600, .inl (F 6))), (a 7, .inl (X.cI, 1024, .inl (F 7))), (a 8, .inl (X.cZ, 600, .inl (F 8)))]) C hiX2 tyX2_ok nmX2 0 6 rfl rfl (by decide) hf24 rfl rfl rfl (Nat.le_of_ble_eq_true rfl) dX2_applyToSingles_20 rfl rfl ?_
      refine z_aload_n (q := 24) C 0 rfl rfl dX2_applyToSingles_23 rfl ?_
      refine z_aload_n (q := 25) C 0 rfl rfl dX2_applyToSingles_24 rfl ?_
      refine z_get (q := 28) (v := .ref h) C hiX2 0 1 rfl rfl (by decide) hf34 rfl dX2_applyToSingles_25 rfl ?_
      refine z_get (q := 31) (v := .ref (a 0)) C hiX3 3 0 rfl rfl (by decide) hf57 rfl dX2_applyToSingles_28 rfl ?_
      refine z_iload_n (q := 32) C 1 rfl rfl dX2_applyToSingles_31 rfl ?_
      refine z_iald (q := 33) C 4 rfl (i := i) (by omega) (by decide) dX2_applyToSingles_32 rfl ?_
      refine z_aload_n (q := 34) C 0 rfl rfl dX2_applyToSingles_33 rfl ?_
      refine z_get (q := 37) (v := .ref h) C hiX2 0 1 rfl rfl (by decide) hf34 rfl dX2_applyToSingles_34 rfl ?_
      refine z_get (q := 40) (v := .ref (a 1)) C hiX3 3 1 rfl rfl (by decide) hf64 rfl dX2_applyToSingles_37 rfl ?_
      refine z_iload_n (q := 41) C 1 rfl rfl dX2_applyToSingles_40 rfl ?_
      refine z_iald (q := 42) C 5 rfl (i := i) (by omega) (by decide) dX2_applyToSingles_41 rfl ?_
      refine z_aload_n (q := 43) C 0 rfl rfl dX2_applyToSingles_42 rfl ?_
      refine z_get (q := 46) (v := .ref h) C hiX2 0 1 rfl rfl (by decide) hf34 rfl dX2_applyToSingles_43 rfl ?_
      refine z_get (q := 49) (v := .ref (a 2)) C hiX3 3 2 rfl rfl (by decide) hf61 rfl dX2_applyToSingles_46 rfl ?_
      refine z_iload_n (q := 50) C 1 rfl rfl dX2_applyToSingles_49 rfl ?_
      refine z_iald (q := 51) C 6 rfl (i := i) (by omega) (by decide) dX2_applyToSingles_50 rfl ?_
      refine z_callV (q := 54) (n := 3) (As := [.int ((F 0) i), .int ((F 1) i), .int ((F 2) i)]) (rest := []) (wr := []) C (c_X2_makeOfOne X.l X.D X.2.1 hr ht sp en rd rule (nI i) (-1) ta nl hnl tf h a F n ov am (singN nl tf L rule rd S i) hR (F 0 i) (F 1 i) (F 2 i) hru) gX2_applyToSingles_X2_makeOfOne rfl rfl rfl (by decide +kernel) (by decide) ⟨by first | decide | omega, by first | decide | omega⟩ 0 2 rfl rfl [0, 1, 2, 3, 4, 5, 6, 7, 8, 9, 10, 11, 12] [] rfl rfl (by decide) (by decide) (by decide) rfl rfl (Nat.le_of_ble_eq_true rfl) dX2_applyToSingles_51 rfl (fun v w1 hp => ?_)
      obtain ⟨F1, n1, o1, hR1, rfl, rfl⟩ := hp
      show zW X 2 [(hr, .inr (2, [.ref ht, .ref h, .int (nI sp), .int (nI en), .int rd, .int (nI rule), .int (nI i), .int (-1)])), (ht, .inr (4, [.ref ta, .int (nI nl)])), (ta, .inl (X.cI, 40, .inl tf)), (h, .inr (3, [.ref (a 0), .ref (a 1), .ref (a 2), .ref (a 3), .ref (a 4), .ref (a 5), .ref (a 6), .ref (a 7), .ref (a 8), .int (nI n1), .int (zb o1), .int am])), (a 0, .inl (X.cI, 600, .inl (F1 0))), (a 1, .inl (X.cI, 600, .inl (F1 1))), (a 2, .inl (X.cI, 600, .inl (F1 2))), (a 3, .inl (X.cI, 600, .inl (F1 3))), (a 4, .inl (X.cI, 600, .inl (F1 4))), (a 5, .inl (X.cI, 600, .inl (F1 5))), (a 6, .inl (X.cI, 600, .inl (F1 6))), (a 7, .inl (X.cI, 1024, .inl (F1 7))), (a 8, .inl (X.cZ, 600, .inl (F1 8)))] _ _ 54 _ []
      refine z_iinc (q := 57) (v := nI (i + 1)) (lv' := [(1, .int (nI (i + 1))), (0, .ref hr)]) C 1 dX2_applyToSingles_54 rfl rfl (k_inc1 i) (by decide) rfl ?_
      refine z_goto (tgt := 10) C dX2_applyToSingles_57 (by decide) ?_
      refine z_lv [1, 0] rfl ?_
      exact ih (i + 1) F1 n1 o1 (nI i) (by omega) (by omega) (by omega) (by show rowsRep F1 n1 o1 (addL _ _ _ _ _ _); rw [hR.at (i := i) (j := 0) (by omega) (by omega), hR.at (i := i) (j := 1) (by omega) (by omega), hR.at (i := i) (j := 2) (by omega) (by omega), hst.get (i := i) (by show i < L.length; omega)] at hR1; exact hR1)

set_option maxHeartbeats 4000000 in
set_option maxRecDepth 100000 in
theorem c_X2_applyToSingles (l : Launch) (D : va_G) (g : ClassId × ClassId × ClassId) (hr ht : Nat) (sp en : Nat) (rd : Int32) (rule : Nat) (x y : Int32) (ta nl : Nat) (hnl : nl ≤ 40) (tf : Nat → Int32) (h : Nat) (a : Nat → Nat) (F : Nat → Nat → Int32) (n : Nat) (ov : Bool) (am : Int32) (S : RSt) (hR : rowsRep F n ov S) (L : List Row) (hL : L.length = en) (hS : stp (L, false) S) (hru : rule = 0 ∨ rule = 1 ∨ rule = 4 ∨ rule = 6 ∨ rule = 8 ∨ rule = 10 ∨ rule = 12 ∨ rule = 13) (hse : sp ≤ en) (hno : singN nl tf L rule rd S sp = S) : zM l yX2_applyToSingles wsX2_applyToSingles ({ frames := 4, cells := 0, slots := 0, locals := 100 } : Room) D g [.ref hr] [(hr, .inr (2, [.ref ht, .ref h, .int (nI sp), .int (nI en), .int rd, .int (nI rule), .int x, .int y])), (ht, .inr (4, [.ref ta, .int (nI nl)])), (ta, .inl (g.1, 40, .inl tf)), (h, .inr (3, [.ref (a 0), .ref (a 1), .ref (a 2), .ref (a 3), .ref (a 4), .ref (a 5), .ref (a 6), .ref (a 7), .ref (a 8), .int (nI n), .int (zb ov), .int am])), (a 0, .inl (g.1, 600, .inl (F 0))), (a 1, .inl (g.1, 600, .inl (F 1))), (a 2, .inl (g.1, 600, .inl (F 2))), (a 3, .inl (g.1, 600, .inl (F 3))), (a 4, .inl (g.1, 600, .inl (F 4))), (a 5, .inl (g.1, 600, .inl (F 5))), (a 6, .inl (g.1, 600, .inl (F 6))), (a 7, .inl (g.1, 1024, .inl (F 7))), (a 8, .inl (g.2.1, 600, .inl (F 8)))] 0 0 (fun v w1 => ∃ (F1 : Nat → Nat → Int32) (n1 : Nat) (o1 : Bool) (x1 : Int32), rowsRep F1 n1 o1 (singN nl tf L rule rd S en) ∧ v = none ∧ w1 = [(hr, .inr (2, [.ref ht, .ref h, .int (nI sp), .int (nI en), .int rd, .int (nI rule), .int x1, .int (-1)])), (ht, .inr (4, [.ref ta, .int (nI nl)])), (ta, .inl (g.1, 40, .inl tf)), (h, .inr (3, [.ref (a 0), .ref (a 1), .ref (a 2), .ref (a 3), .ref (a 4), .ref (a 5), .ref (a 6), .ref (a 7), .ref (a 8), .int (nI n1), .int (zb o1), .int am])), (a 0, .inl (g.1, 600, .inl (F1 0))), (a 1, .inl (g.1, 600, .inl (F1 1))), (a 2, .inl (g.1, 600, .inl (F1 2))), (a 3, .inl (g.1, 600, .inl (F1 3))), (a 4, .inl (g.1, 600, .inl (F1 4))), (a 5, .inl (g.1, 600, .inl (F1 5))), (a 6, .inl (g.1, 600, .inl (F1 6))), (a 7, .inl (g.1, 1024, .inl (F1 7))), (a 8, .inl (g.2.1, 600, .inl (F1 8)))]) := by
  refine z_met (cc := cX2_applyToSingles) (maxL := 2) (ret := none) (lv := [(0, .ref hr)]) (by decide) rfl (Nat.le_of_ble_eq_true rfl) rfl ?_
  intro X hXD hXg hXl hnm C E
  subst hXD hXg hXl
  have C : zC X cX2_applyToSingles 2 RX2 wsX2_applyToSingles ({ frames := 4, cells := 0, slots := 0, locals := 100 } : Room) := C
  have hiX2 : ∀ w ∈ u_ws RX2 TX2 8, w ∈ wsX2_applyToSingles := by decide +kernel
  have hf9 : Cond.fieldLink RX2 9 "RdfsRules$Reasoner" "spent" "I" ∈ wsX2_applyToSingles := by decide +kernel
  have hf27 : Cond.fieldLink RX2 27 "RdfsRules$Reasoner" "second" "I" ∈ wsX2_applyToSingles := by decide +kernel
  have hn6 := hR.le
  refine z_aload_n (q := 1) C 0 rfl rfl dX2_applyToSingles_0 rfl ?_
  refine z_iconst (q := 2) C k_iconst_m1 dX2_applyToSingles_1 rfl ?_
  refine z_put (q := 5) (ws' := [(hr, .inr (2, [.ref ht, .ref h, .int (nI sp), .int (nI en), .int rd, .int (nI rule), .int x, .int (-1)])), (ht, .inr (4, [.ref ta, .int (nI nl)])), (ta, .inl (X.cI, 40, .inl tf)), (h, .inr (3, [.ref (a 0), .ref (a 1), .ref (a 2), .ref (a 3), .ref (a 4), .ref (a 5), .ref (a 6), .ref (a 7), .ref (a 8), .int (nI n), .int (zb ov), .int am])), (a 0, .inl (X.cI, 600, .inl (F 0))), (a 1, .inl (X.cI, 600, .inl (F 1))), (a 2, .inl (X.cI, 600, .inl (F 2))), (a 3, .inl (X.cI, 600, .inl (F 3))), (a 4, .inl (X.cI, 600, .inl (F 4))), (a 5, .inl (X.cI, 600, .inl (F 5))), (a 6, .inl (X.cI, 600, .inl (F 6))), (a 7, .inl (X.cI, 1024, .inl (F 7))), (a 8, .inl (X.cZ, 600, .inl (F 8)))]) C hiX2 tyX2_ok nmX2 0 7 rfl rfl (by decide) hf27 rfl rfl rfl (Nat.le_of_ble_eq_true rfl) dX2_applyToSingles_2 rfl rfl ?_
  refine z_aload_n (q := 6) C 0 rfl rfl dX2_applyToSingles_5 rfl ?_
  refine z_get (q := 9) (v := .int (nI sp)) C hiX2 0 2 rfl rfl (by decide) hf9 rfl dX2_applyToSingles_6 rfl ?_
  refine z_istore_n (q := 10) (lv' := [(1, .int (nI sp)), (0, .ref hr)]) C rfl dX2_applyToSingles_9 rfl (by decide) rfl ?_
  refine z_lv [1, 0] rfl ?_
  exact l_X2_applyToSingles hr ht sp en rd rule ta nl hnl tf h a am S L hL hS hru C E (en + 1) sp F n ov x (Nat.le_refl _) hse (by omega) (by rw [hno]; exact hR)

set_option maxHeartbeats 4000000 in
set_option maxRecDepth 100000 in
theorem l_X2_applyToPairs_i {X : zX} (hr ht : Nat) (sp en : Nat) (rd : Int32) (rule : Nat) (ta nl : Nat) (hnl : nl ≤ 40) (h : Nat) (a : Nat → Nat) (am : Int32) (S : RSt) (L : List Row) (hL : L.length = en) (hS : stp (L, false) S) (hru : rule = 2 ∨ rule = 3 ∨ rule = 5 ∨ rule = 7 ∨ rule = 9 ∨ rule = 11) (i : Nat) (hi : i < en) (Si : RSt) (hSi : stp (L, false) Si) (hnext : ∀ (F : Nat → Nat → Int32) (n : Nat) (ov : Bool) (y1 : Int32), rowsRep F n ov (pairN nl L rule rd i Si en) → zW X 8 [(hr, .inr (2, [.ref ht, .ref h, .int (nI sp), .int (nI en), .int rd, .int (nI rule), .int (nI i), .int y1])), (ht, .inr (4, [.ref ta, .int (nI nl)])), (h, .inr (3, [.ref (a 0), .ref (a 1), .ref (a 2), .ref (a 3), .ref (a 4), .ref (a 5), .ref (a 6), .ref (a 7), .ref (a 8), .int (nI n), .int (zb ov), .int am])), (a 0, .inl (X.cI, 600, .inl (F 0))), (a 1, .inl (X.cI, 600, .inl (F 1))), (a 2, .inl (X.cI, 600, .inl (F 2))), (a 3, .inl (X.cI, 600, .inl (F 3))), (a 4, .inl (X.cI, 600, .inl (F 4))), (a 5, .inl (X.cI, 600, .inl (F 5))), (a 6, .inl (X.cI, 600, .inl (F 6))), (a 7, .inl (X.cI, 1024, .inl (F 7))), (a 8, .inl (X.cZ, 600, .inl (F 8)))] 0 0 172 [(0, .ref hr), (1, .int (firstP rule)), (2, .ref (a (setP rule))), (3, .int (nI i)), (4, .int (L.getD i r0 0)), (5, .int (L.getD i r0 2)), (6, .int (wantV rule (L.getD i r0 0) (L.getD i r0 2)))] []) (C : zC X cX2_applyToPairs 8 RX2 wsX2_applyToPairs ({ frames := 4, cells := 0, slots := 0, locals := 102 } : Room)) (E : zE X none 0 0 (fun v w1 => ∃ (F1 : Nat → Nat → Int32) (n1 : Nat) (o1 : Bool) (x1 y1 : Int32), rowsRep F1 n1 o1 (pairsN nl L rule rd S en) ∧ v = none ∧ w1 = [(hr, .inr (2, [.ref ht, .ref h, .int (nI sp), .int (nI en), .int rd, .int (nI rule), .int x1, .int y1])), (ht, .inr (4, [.ref ta, .int (nI nl)])), (h, .inr (3, [.ref (a 0), .ref (a 1), .ref (a 2), .ref (a 3), .ref (a 4), .ref (a 5), .ref (a 6), .ref (a 7), .ref (a 8), .int (nI n1), .int (zb o1), .int am])), (a 0, .inl (X.cI, 600, .inl (F1 0))), (a 1, .inl (X.cI, 600, .inl (F1 1))), (a 2, .inl (X.cI, 600, .inl (F1 2))), (a 3, .inl (X.cI, 600, .inl (F1 3))), (a 4, .inl (X.cI, 600, .inl (F1 4))), (a 5, .inl (X.cI, 600, .inl (F1 5))), (a 6, .inl (X.cI, 600, .inl (F1 6))), (a 7, .inl (X.cI, 1024, .inl (F1 7))), (a 8, .inl (X.cZ, 600, .inl (F1 8)))])) : ∀ (m : Nat) (k : Nat) (F : Nat → Nat → Int32) (n : Nat) (ov : Bool) (y1 : Int32), k ≤ en → en < k + m → rowsRep F n ov (pairN nl L rule rd i Si k) → zW X 8 [(hr, .inr (2, [.ref ht, .ref h, .int (nI sp), .int (nI en), .int rd, .int (nI rule), .int (nI i), .int y1])), (ht, .inr (4, [.ref ta, .int (nI nl)])), (h, .inr (3, [.ref (a 0), .ref (a 1), .ref (a 2), .ref (a 3), .ref (a 4), .ref (a 5), .ref (a 6), .ref (a 7), .ref (a 8), .int (nI n), .int (zb ov), .int am])), (a 0, .inl (X.cI, 600, .inl (F 0))), (a 1, .inl (X.cI, 600, .inl (F 1))), (a 2, .inl (X.cI, 600, .inl (F 2))), (a 3, .inl (X.cI, 600, .inl (F 3))), (a 4, .inl (X.cI, 600, .inl (F 4))), (a 5, .inl (X.cI, 600, .inl (F 5))), (a 6, .inl (X.cI, 600, .inl (F 6))), (a 7, .inl (X.cI, 1024, .inl (F 7))), (a 8, .inl (X.cZ, 600, .inl (F 8)))] 0 0 104 [(0, .ref hr), (1, .int (firstP rule)), (2, .ref (a (setP rule))), (3, .int (nI i)), (4, .int (L.getD i r0 0)), (5, .int (L.getD i r0 2)), (6, .int (wantV rule (L.getD i r0 0) (L.getD i r0 2))), (7, .int (nI k))] [] := by
  have hiX2 : ∀ w ∈ u_ws RX2 TX2 8, w ∈ wsX2_applyToPairs := by decide +kernel
  have hiX3 : ∀ w ∈ u_ws RX3 TX3 12, w ∈ wsX2_applyToPairs := by decide +kernel
  have hf15 : Cond.fieldLink RX2 15 "RdfsRules$Reasoner" "end" "I" ∈ wsX2_applyToPairs := by decide +kernel
  have hf27 : Cond.fieldLink RX2 27 "RdfsRules$Reasoner" "second" "I" ∈ wsX2_applyToPairs := by decide +kernel
  have hf34 : Cond.fieldLink RX2 34 "RdfsRules$Reasoner" "rows" "LRdfsRules$Rows;" ∈ wsX2_applyToPairs := by decide +kernel
  have hf57 : Cond.fieldLink RX2 57 "RdfsRules$Rows" "subjects" "[I" ∈ wsX2_applyToPairs := by decide +kernel
  have hf61 : Cond.fieldLink RX2 61 "RdfsRules$Rows" "objects" "[I" ∈ wsX2_applyToPairs := by decide +kernel
  have hf64 : Cond.fieldLink RX2 64 "RdfsRules$Rows" "properties" "[I" ∈ wsX2_applyToPairs := by decide +kernel
  intro m
  induction m with
  | zero =>
    intro k F n ov y1 hk hm hR
    exfalso
    omega
  | succ m ih =>
    intro k F n ov y1 hk hm hR
    have hst := hSi.tr (pairN_stp (nl := nl) (L := L) (rule := rule) (rd := rd) i Si k)
    have hle := hst.len
    have hnn := hR.1
    have hn6 := hR.le
    have hen : en ≤ n := by rw [← hL, ← hnn]; exact hle
    refine z_iload (q := 106) C 7 rfl dX2_applyToPairs_104 rfl ?_
    refine z_aload_n (q := 107) C 0 rfl rfl dX2_applyToPairs_106 rfl ?_
    refine z_get (q := 110) (v := .int (nI en)) C hiX2 0 3 rfl rfl (by decide) hf15 rfl dX2_applyToPairs_107 rfl ?_
    refine z_icmp_ge_n (q := 113) (tgt := 172) C (by omega) (by omega) dX2_applyToPairs_110 (by decide) rfl (fun c110 => ?_) (fun c110 => ?_)
    · skip
      obtain rfl : k = en := by omega
      refine z_lv [0, 1, 2, 3, 4, 5, 6] rfl ?_
      exact hnext F n ov y1 hR
    · skip
      refine z_aload_n (q := 114) C 2 rfl rfl dX2_applyToPairs_113 rfl ?_
      refine z_iload (q := 116) C 7 rfl dX2_applyToPairs_114 rfl ?_
      refine z_iald (q := 117) C (3 + setP rule) (a := a (setP rule)) (n := 600) (f := F (setP rule)) (by rcases hru with rfl | rfl | rfl | rfl | rfl | rfl <;> rfl) (i := k) (by omega) (by decide) dX2_applyToPairs_116 rfl ?_
      refine z_iload (q := 119) C 6 rfl dX2_applyToPairs_117 rfl ?_
      refine z_icmp_ne (q := 122) (tgt := 166) C dX2_applyToPairs_119 (by decide) rfl (fun c119 => ?_) (fun c119 => ?_)
      · skip
        refine z_iinc (q := 169) (v := nI (k + 1)) (lv' := [(7, .int (nI (k + 1))), (0, .ref hr), (1, .int (firstP rule)), (2, .ref (a (setP rule))), (3, .int (nI i)), (4, .int (L.getD i r0 0)), (5, .int (L.getD i r0 2)), (6, .int (wantV rule (L.getD i r0 0) (L.getD i r0 2)))]) C 7 dX2_applyToPairs_166 rfl rfl (k_inc1 k) (by decide) rfl ?_
        refine z_goto (tgt := 104) C dX2_applyToPairs_169 (by decide) ?_
        refine z_lv [1, 2, 3, 4, 5, 6, 7, 0] rfl ?_
        exact ih (k + 1) F n ov y1 (by omega) (by omega) (by show rowsRep F n ov (addL _ _ _ _ _ _); rw [twoL_skip (b := L.getD k r0) hru (fun e => c119 (by rw [hR.at (i := k) (j := setP rule) (by omega) (by rcases hru with rfl | rfl | rfl | rfl | rfl | rfl <;> decide), hst.get (i := k) (by show k < L.length; omega)]; exact e))]; exact hR)
      · skip
        refine z_aload_n (q := 123) C 0 rfl rfl dX2_applyToPairs_122 rfl ?_
        refine z_iload (q := 125) C 7 rfl dX2_applyToPairs_123 rfl ?_
        refine z_put (q := 128) (ws' := [(hr, .inr (2, [.ref ht, .ref h, .int (nI sp), .int (nI en), .int rd, .int (nI rule), .int (nI i), .int (nI k)])), (ht, .inr (4, [.ref ta, .int (nI nl)])), (h, .inr (3, [.ref (a 0), .ref (a 1), .ref (a 2), .ref (a 3), .ref (a 4), .ref (a 5), .ref (a 6), .ref (a 7), .ref (a 8), .int (nI n), .int (zb ov), .int am])), (a 0, .inl (X.cI, 600, .inl (F 0))), (a 1, .inl (X.cI, 600, .inl (F 1))), (a 2, .inl (X.cI, 600, .inl (F 2))), (a 3, .inl (X.cI, 600, .inl (F 3))), (a 4, .inl (X.cI, 600, .inl (F 4))), (a 5, .inl (X.cI, 600, .inl (F 5))), (a 6, .inl (X.cI, 600, .inl (F 6))), (a 7, .inl (X.cI, 1024, .inl (F 7))), (a 8, .inl (X.cZ, 600, .inl (F 8)))]) C hiX2 tyX2_ok nmX2 0 7 rfl rfl (by decide) hf27 rfl rfl rfl (Nat.le_of_ble_eq_true rfl) dX2_applyToPairs_125 rfl rfl ?_
        refine z_aload_n (q := 129) C 0 rfl rfl dX2_applyToPairs_128 rfl ?_
        refine z_iload (q := 131) C 4 rfl dX2_applyToPairs_129 rfl ?_
        refine z_iload (q := 133) C 5 rfl dX2_applyToPairs_131 rfl ?_
        refine z_aload_n (q := 134) C 0 rfl rfl dX2_applyToPairs_133 rfl ?_
        refine z_get (q := 137) (v := .ref h) C hiX2 0 1 rfl rfl (by decide) hf34 rfl dX2_applyToPairs_134 rfl ?_
        refine z_get (q := 140) (v := .ref (a 0)) C hiX3 2 0 rfl rfl (by decide) hf57 rfl dX2_applyToPairs_137 rfl ?_
        refine z_iload (q := 142) C 7 rfl dX2_applyToPairs_140 rfl ?_
        refine z_iald (q := 143) C 3 rfl (i := k) (by omega) (by decide) dX2_applyToPairs_142 rfl ?_
        refine z_aload_n (q := 144) C 0 rfl rfl dX2_applyToPairs_143 rfl ?_
        refine z_get (q := 147) (v := .ref h) C hiX2 0 1 rfl rfl (by decide) hf34 rfl dX2_applyToPairs_144 rfl ?_
        refine z_get (q := 150) (v := .ref (a 1)) C hiX3 2 1 rfl rfl (by decide) hf64 rfl dX2_applyToPairs_147 rfl ?_
        refine z_iload (q := 152) C 7 rfl dX2_applyToPairs_150 rfl ?_
        refine z_iald (q := 153) C 4 rfl (i := k) (by omega) (by decide) dX2_applyToPairs_152 rfl ?_
        refine z_aload_n (q := 154) C 0 rfl rfl dX2_applyToPairs_153 rfl ?_
        refine z_get (q := 157) (v := .ref h) C hiX2 0 1 rfl rfl (by decide) hf34 rfl dX2_applyToPairs_154 rfl ?_
        refine z_get (q := 160) (v := .ref (a 2)) C hiX3 2 2 rfl rfl (by decide) hf61 rfl dX2_applyToPairs_157 rfl ?_
        refine z_iload (q := 162) C 7 rfl dX2_applyToPairs_160 rfl ?_
        refine z_iald (q := 163) C 5 rfl (i := k) (by omega) (by decide) dX2_applyToPairs_162 rfl ?_
        refine z_callV (q := 166) (n := 5) (As := [.int (L.getD i r0 0), .int (L.getD i r0 2), .int ((F 0) k), .int ((F 1) k), .int ((F 2) k)]) (rest := []) (wr := []) C (c_X2_makeOfTwo X.l X.D X.2.1 hr ht sp en rd rule (nI i) (nI k) ta nl hnl h a F n ov am (pairN nl L rule rd i Si k) hR (L.getD i r0 0) (L.getD i r0 2) (F 0 k) (F 1 k) (F 2 k) hru) gX2_applyToPairs_X2_makeOfTwo rfl rfl rfl (by decide +kernel) (by decide) ⟨by first | decide | omega, by first | decide | omega⟩ 0 2 rfl rfl [0, 1, 2, 3, 4, 5, 6, 7, 8, 9, 10, 11] [] rfl rfl (by decide) (by decide) (by decide) rfl rfl (Nat.le_of_ble_eq_true rfl) dX2_applyToPairs_163 rfl (fun v w1 hp => ?_)
        obtain ⟨F1, n1, o1, hR1, rfl, rfl⟩ := hp
        show zW X 8 [(hr, .inr (2, [.ref ht, .ref h, .int (nI sp), .int (nI en), .int rd, .int (nI rule), .int (nI i), .int (nI k)])), (ht, .inr (4, [.ref ta, .int (nI nl)])), (h, .inr (3, [.ref (a 0), .ref (a 1), .ref (a 2), .ref (a 3), .ref (a 4), .ref (a 5), .ref (a 6), .ref (a 7), .ref (a 8), .int (nI n1), .int (zb o1), .int am])), (a 0, .inl (X.cI, 600, .inl (F1 0))), (a 1, .inl (X.cI, 600, .inl (F1 1))), (a 2, .inl (X.cI, 600, .inl (F1 2))), (a 3, .inl (X.cI, 600, .inl (F1 3))), (a 4, .inl (X.cI, 600, .inl (F1 4))), (a 5, .inl (X.cI, 600, .inl (F1 5))), (a 6, .inl (X.cI, 600, .inl (F1 6))), (a 7, .inl (X.cI, 1024, .inl (F1 7))), (a 8, .inl (X.cZ, 600, .inl (F1 8)))] _ _ 166 _ []
        refine z_iinc (q := 169) (v := nI (k + 1)) (lv' := [(7, .int (nI (k + 1))), (0, .ref hr), (1, .int (firstP rule)), (2, .ref (a (setP rule))), (3, .int (nI i)), (4, .int (L.getD i r0 0)), (5, .int (L.getD i r0 2)), (6, .int (wantV rule (L.getD i r0 0) (L.getD i r0 2)))]) C 7 dX2_applyToPairs_166 rfl rfl (k_inc1 k) (by decide) rfl ?_
        refine z_goto (tgt := 104) C dX2_applyToPairs_169 (by decide) ?_
        refine z_lv [1, 2, 3, 4, 5, 6, 7, 0] rfl ?_
        exact ih (k + 1) F1 n1 o1 (nI k) (by omega) (by omega) (by show rowsRep F1 n1 o1 (addL _ _ _ _ _ _); rw [hR.at (i := k) (j := 0) (by omega) (by omega), hR.at (i := k) (j := 1) (by omega) (by omega), hR.at (i := k) (j := 2) (by omega) (by omega), hst.get (i := k) (by show k < L.length; omega)] at hR1; exact hR1)

set_option maxHeartbeats 4000000 in
set_option maxRecDepth 100000 in
theorem l_X2_applyToPairs {X : zX} (hr ht : Nat) (sp en : Nat) (rd : Int32) (rule : Nat) (ta nl : Nat) (hnl : nl ≤ 40) (h : Nat) (a : Nat → Nat) (am : Int32) (S : RSt) (L : List Row) (hL : L.length = en) (hS : stp (L, false) S) (hru : rule = 2 ∨ rule = 3 ∨ rule = 5 ∨ rule = 7 ∨ rule = 9 ∨ rule = 11) (hse : sp ≤ en) (hno : ∀ i, i < sp → L.getD i r0 1 = firstP rule → pairN nl L rule rd i (pairsN nl L rule rd S i) sp = pairsN nl L rule rd S i) (hr14 : rule < 14) (C : zC X cX2_applyToPairs 8 RX2 wsX2_applyToPairs ({ frames := 4, cells := 0, slots := 0, locals := 102 } : Room)) (E : zE X none 0 0 (fun v w1 => ∃ (F1 : Nat → Nat → Int32) (n1 : Nat) (o1 : Bool) (x1 y1 : Int32), rowsRep F1 n1 o1 (pairsN nl L rule rd S en) ∧ v = none ∧ w1 = [(hr, .inr (2, [.ref ht, .ref h, .int (nI sp), .int (nI en), .int rd, .int (nI rule), .int x1, .int y1])), (ht, .inr (4, [.ref ta, .int (nI nl)])), (h, .inr (3, [.ref (a 0), .ref (a 1), .ref (a 2), .ref (a 3), .ref (a 4), .ref (a 5), .ref (a 6), .ref (a 7), .ref (a 8), .int (nI n1), .int (zb o1), .int am])), (a 0, .inl (X.cI, 600, .inl (F1 0))), (a 1, .inl (X.cI, 600, .inl (F1 1))), (a 2, .inl (X.cI, 600, .inl (F1 2))), (a 3, .inl (X.cI, 600, .inl (F1 3))), (a 4, .inl (X.cI, 600, .inl (F1 4))), (a 5, .inl (X.cI, 600, .inl (F1 5))), (a 6, .inl (X.cI, 600, .inl (F1 6))), (a 7, .inl (X.cI, 1024, .inl (F1 7))), (a 8, .inl (X.cZ, 600, .inl (F1 8)))])) : ∀ (m : Nat) (i : Nat) (F : Nat → Nat → Int32) (n : Nat) (ov : Bool) (x1 y1 : Int32), i ≤ en → en < i + m → rowsRep F n ov (pairsN nl L rule rd S i) → zW X 8 [(hr, .inr (2, [.ref ht, .ref h, .int (nI sp), .int (nI en), .int rd, .int (nI rule), .int x1, .int y1])), (ht, .inr (4, [.ref ta, .int (nI nl)])), (h, .inr (3, [.ref (a 0), .ref (a 1), .ref (a 2), .ref (a 3), .ref (a 4), .ref (a 5), .ref (a 6), .ref (a 7), .ref (a 8), .int (nI n), .int (zb ov), .int am])), (a 0, .inl (X.cI, 600, .inl (F 0))), (a 1, .inl (X.cI, 600, .inl (F 1))), (a 2, .inl (X.cI, 600, .inl (F 2))), (a 3, .inl (X.cI, 600, .inl (F 3))), (a 4, .inl (X.cI, 600, .inl (F 4))), (a 5, .inl (X.cI, 600, .inl (F 5))), (a 6, .inl (X.cI, 600, .inl (F 6))), (a 7, .inl (X.cI, 1024, .inl (F 7))), (a 8, .inl (X.cZ, 600, .inl (F 8)))] 0 0 12 [(0, .ref hr), (1, .int (firstP rule)), (2, .ref (a (setP rule))), (3, .int (nI i))] [] := by
  have hiX2 : ∀ w ∈ u_ws RX2 TX2 8, w ∈ wsX2_applyToPairs := by decide +kernel
  have hiX3 : ∀ w ∈ u_ws RX3 TX3 12, w ∈ wsX2_applyToPairs := by decide +kernel
  have hf9 : Cond.fieldLink RX2 9 "RdfsRules$Reasoner" "spent" "I" ∈ wsX2_applyToPairs := by decide +kernel
  have hf15 : Cond.fieldLink RX2 15 "RdfsRules$Reasoner" "end" "I" ∈ wsX2_applyToPairs := by decide +kernel
  have hf21 : Cond.fieldLink RX2 21 "RdfsRules$Reasoner" "maker" "I" ∈ wsX2_applyToPairs := by decide +kernel
  have hf24 : Cond.fieldLink RX2 24 "RdfsRules$Reasoner" "first" "I" ∈ wsX2_applyToPairs := by decide +kernel
  have hf34 : Cond.fieldLink RX2 34 "RdfsRules$Reasoner" "rows" "LRdfsRules$Rows;" ∈ wsX2_applyToPairs := by decide +kernel
  have hf57 : Cond.fieldLink RX2 57 "RdfsRules$Rows" "subjects" "[I" ∈ wsX2_applyToPairs := by decide +kernel
  have hf61 : Cond.fieldLink RX2 61 "RdfsRules$Rows" "objects" "[I" ∈ wsX2_applyToPairs := by decide +kernel
  have hf64 : Cond.fieldLink RX2 64 "RdfsRules$Rows" "properties" "[I" ∈ wsX2_applyToPairs := by decide +kernel
  intro m
  induction m with
  | zero =>
    intro i F n ov x1 y1 hi hm hR
    exfalso
    omega
  | succ m ih =>
    intro i F n ov x1 y1 hi hm hR
    have hst := hS.tr (pairsN_mono (nl := nl) (L := L) (rule := rule) (rd := rd) S 0 i (Nat.zero_le _))
    have hle := hst.len
    have hnn := hR.1
    have hn6 := hR.le
    have hen : en ≤ n := by rw [← hL, ← hnn]; exact hle
    refine z_iload_n (q := 13) C 3 rfl rfl dX2_applyToPairs_12 rfl ?_
    refine z_aload_n (q := 14) C 0 rfl rfl dX2_applyToPairs_13 rfl ?_
    refine z_get (q := 17) (v := .int (nI en)) C hiX2 0 3 rfl rfl (by decide) hf15 rfl dX2_applyToPairs_14 rfl ?_
    refine z_icmp_ge_n (q := 20) (tgt := 178) C (by omega) (by omega) dX2_applyToPairs_17 (by decide) rfl (fun c17 => ?_) (fun c17 => ?_)
    · skip
      refine z_vret C E (by omega) (by omega) dX2_applyToPairs_178 ?_
      obtain rfl : i = en := by omega
      exact ⟨F, n, ov, x1, y1, hR, rfl, rfl⟩
    · skip
      refine z_aload_n (q := 21) C 0 rfl rfl dX2_applyToPairs_20 rfl ?_
      refine z_get (q := 24) (v := .ref h) C hiX2 0 1 rfl rfl (by decide) hf34 rfl dX2_applyToPairs_21 rfl ?_
      refine z_get (q := 27) (v := .ref (a 1)) C hiX3 2 1 rfl rfl (by decide) hf64 rfl dX2_applyToPairs_24 rfl ?_
      refine z_iload_n (q := 28) C 3 rfl rfl dX2_applyToPairs_27 rfl ?_
      refine z_iald (q := 29) C 4 rfl (i := i) (by omega) (by decide) dX2_applyToPairs_28 rfl ?_
      refine z_iload_n (q := 30) C 1 rfl rfl dX2_applyToPairs_29 rfl ?_
      refine z_icmp_ne (q := 33) (tgt := 172) C dX2_applyToPairs_30 (by decide) rfl (fun c30 => ?_) (fun c30 => ?_)
      · skip
        refine z_iinc (q := 175) (v := nI (i + 1)) (lv' := [(3, .int (nI (i + 1))), (0, .ref hr), (1, .int (firstP rule)), (2, .ref (a (setP rule)))]) C 3 dX2_applyToPairs_172 rfl rfl (k_inc1 i) (by decide) rfl ?_
        refine z_goto (tgt := 12) C dX2_applyToPairs_175 (by decide) ?_
        refine z_lv [1, 2, 3, 0] rfl ?_
        exact ih (i + 1) F n ov x1 y1 (by omega) (by omega) (by rw [show pairsN nl L rule rd S (i + 1) = pairsN nl L rule rd S i from if_neg (fun e => c30 (by rw [← e, hR.at (i := i) (j := 1) (by omega) (by omega), hst.get (i := i) (by show i < L.length; omega)]))]; exact hR)
      · skip
        refine z_aload_n (q := 34) C 0 rfl rfl dX2_applyToPairs_33 rfl ?_
        refine z_iload_n (q := 35) C 3 rfl rfl dX2_applyToPairs_34 rfl ?_
        refine z_put (q := 38) (ws' := [(hr, .inr (2, [.ref ht, .ref h, .int (nI sp), .int (nI en), .int rd, .int (nI rule), .int (nI i), .int y1])), (ht, .inr (4, [.ref ta, .int (nI nl)])), (h, .inr (3, [.ref (a 0), .ref (a 1), .ref (a 2), .ref (a 3), .ref (a 4), .ref (a 5), .ref (a 6), .ref (a 7), .ref (a 8), .int (nI n), .int (zb ov), .int am])), (a 0, .inl (X.cI, 600, .inl (F 0))), (a 1, .inl (X.cI, 600, .inl (F 1))), (a 2, .inl (X.cI, 600, .inl (F 2))), (a 3, .inl (X.cI, 600, .inl (F 3))), (a 4, .inl (X.cI, 600, .inl (F 4))), (a 5, .inl (X.cI, 600, .inl (F 5))), (a 6, .inl (X.cI, 600, .inl (F 6))), (a 7, .inl (X.cI, 1024, .inl (F 7))), (a 8, .inl (X.cZ, 600, .inl (F 8)))]) C hiX2 tyX2_ok nmX2 0 6 rfl rfl (by decide) hf24 rfl rfl rfl (Nat.le_of_ble_eq_true rfl) dX2_applyToPairs_35 rfl rfl ?_
        refine z_aload_n (q := 39) C 0 rfl rfl dX2_applyToPairs_38 rfl ?_
        refine z_get (q := 42) (v := .ref h) C hiX2 0 1 rfl rfl (by decide) hf34 rfl dX2_applyToPairs_39 rfl ?_
        refine z_get (q := 45) (v := .ref (a 0)) C hiX3 2 0 rfl rfl (by decide) hf57 rfl dX2_applyToPairs_42 rfl ?_
        refine z_iload_n (q := 46) C 3 rfl rfl dX2_applyToPairs_45 rfl ?_
        refine z_iald (q := 47) C 3 rfl (i := i) (by omega) (by decide) dX2_applyToPairs_46 rfl ?_
        refine z_eqi (y := L.getD i r0 0) (by rw [hR.at (i := i) (j := 0) (by omega) (by omega), hst.get (i := i) (by show i < L.length; omega)]) ?_
        refine z_istore (q := 49) (lv' := [(4, .int (L.getD i r0 0)), (0, .ref hr), (1, .int (firstP rule)), (2, .ref (a (setP rule))), (3, .int (nI i))]) C dX2_applyToPairs_47 rfl (by decide) rfl ?_
        refine z_aload_n (q := 50) C 1 rfl rfl dX2_applyToPairs_49 rfl ?_
        refine z_get (q := 53) (v := .ref h) C hiX2 0 1 rfl rfl (by decide) hf34 rfl dX2_applyToPairs_50 rfl ?_
        refine z_get (q := 56) (v := .ref (a 2)) C hiX3 2 2 rfl rfl (by decide) hf61 rfl dX2_applyToPairs_53 rfl ?_
        refine z_iload_n (q := 57) C 4 rfl rfl dX2_applyToPairs_56 rfl ?_
        refine z_iald (q := 58) C 5 rfl (i := i) (by omega) (by decide) dX2_applyToPairs_57 rfl ?_
        refine z_eqi (y := L.getD i r0 2) (by rw [hR.at (i := i) (j := 2) (by omega) (by omega), hst.get (i := i) (by show i < L.length; omega)]) ?_
        refine z_istore (q := 60) (lv' := [(5, .int (L.getD i r0 2)), (4, .int (L.getD i r0 0)), (0, .ref hr), (1, .int (firstP rule)), (2, .ref (a (setP rule))), (3, .int (nI i))]) C dX2_applyToPairs_58 rfl (by decide) rfl ?_
        refine z_aload_n (q := 61) C 2 rfl rfl dX2_applyToPairs_60 rfl ?_
        refine z_get (q := 64) (v := .int (nI rule)) C hiX2 0 5 rfl rfl (by decide) hf21 rfl dX2_applyToPairs_61 rfl ?_
        refine z_iconst (q := 65) C k_iconst_5 dX2_applyToPairs_64 rfl ?_
        refine z_icmp_eq_n (q := 68) (tgt := 77) C (by omega) (by omega) dX2_applyToPairs_65 (by decide) rfl (fun c65 => ?_) (fun c65 => ?_)
        · skip
          refine z_iload (q := 79) C 0 rfl dX2_applyToPairs_77 rfl ?_
          refine z_goto (tgt := 84) C dX2_applyToPairs_79 (by decide) ?_
          refine z_eqi (y := wantV rule (L.getD i r0 0) (L.getD i r0 2)) ((if_pos (Or.inl c65)).symm) ?_
          refine z_istore (q := 86) (lv' := [(6, .int (wantV rule (L.getD i r0 0) (L.getD i r0 2))), (5, .int (L.getD i r0 2)), (4, .int (L.getD i r0 0)), (0, .ref hr), (1, .int (firstP rule)), (2, .ref (a (setP rule))), (3, .int (nI i))]) C dX2_applyToPairs_84 rfl (by decide) rfl ?_
          refine z_iload_n (q := 87) C 6 rfl rfl dX2_applyToPairs_86 rfl ?_
          refine z_aload_n (q := 88) C 3 rfl rfl dX2_applyToPairs_87 rfl ?_
          refine z_get (q := 91) (v := .int (nI sp)) C hiX2 0 2 rfl rfl (by decide) hf9 rfl dX2_applyToPairs_88 rfl ?_
          refine z_icmp_ge_n (q := 94) (tgt := 101) C (by omega) (by omega) dX2_applyToPairs_91 (by decide) rfl (fun c91 => ?_) (fun c91 => ?_)
          · skip
            refine z_iconst (q := 102) C k_iconst_0 dX2_applyToPairs_101 rfl ?_
            refine z_istore (q := 104) (lv' := [(7, .int (nI 0)), (6, .int (wantV rule (L.getD i r0 0) (L.getD i r0 2))), (5, .int (L.getD i r0 2)), (4, .int (L.getD i r0 0)), (0, .ref hr), (1, .int (firstP rule)), (2, .ref (a (setP rule))), (3, .int (nI i))]) C dX2_applyToPairs_102 rfl (by decide) rfl ?_
            refine z_lv [4, 5, 6, 7, 3, 2, 1, 0] rfl ?_
            have hpi : L.getD i r0 1 = firstP rule := by rw [← c30, hR.at (i := i) (j := 1) (by omega) (by omega), hst.get (i := i) (by show i < L.length; omega)]
            have hpe : pairsN nl L rule rd S (i + 1) = pairN nl L rule rd i (pairsN nl L rule rd S i) en := by rw [← hL]; exact if_pos hpi
            refine l_X2_applyToPairs_i hr ht sp en rd rule ta nl hnl h a am S L hL hS hru i (by omega) (pairsN nl L rule rd S i) hst (fun F n ov y1 hR => ?_) C E (en + 1) 0 F n ov y1 (by omega) (by omega) ?_
            · skip
              refine z_iinc (q := 175) (v := nI (i + 1)) (lv' := [(3, .int (nI (i + 1))), (0, .ref hr), (1, .int (firstP rule)), (2, .ref (a (setP rule))), (4, .int (L.getD i r0 0)), (5, .int (L.getD i r0 2)), (6, .int (wantV rule (L.getD i r0 0) (L.getD i r0 2)))]) C 3 dX2_applyToPairs_172 rfl rfl (k_inc1 i) (by decide) rfl ?_
              refine z_goto (tgt := 12) C dX2_applyToPairs_175 (by decide) ?_
              refine z_lv [1, 2, 3, 0] rfl ?_
              exact ih (i + 1) F n ov (nI i) y1 (by omega) (by omega) (by rw [hpe]; exact hR)
            · exact hR
          · skip
            refine z_aload_n (q := 95) C 3 rfl rfl dX2_applyToPairs_94 rfl ?_
            refine z_get (q := 98) (v := .int (nI sp)) C hiX2 0 2 rfl rfl (by decide) hf9 rfl dX2_applyToPairs_95 rfl ?_
            refine z_goto (tgt := 102) C dX2_applyToPairs_98 (by decide) ?_
            refine z_istore (q := 104) (lv' := [(7, .int (nI sp)), (6, .int (wantV rule (L.getD i r0 0) (L.getD i r0 2))), (5, .int (L.getD i r0 2)), (4, .int (L.getD i r0 0)), (0, .ref hr), (1, .int (firstP rule)), (2, .ref (a (setP rule))), (3, .int (nI i))]) C dX2_applyToPairs_102 rfl (by decide) rfl ?_
            refine z_lv [4, 5, 6, 7, 3, 2, 1, 0] rfl ?_
            have hpi : L.getD i r0 1 = firstP rule := by rw [← c30, hR.at (i := i) (j := 1) (by omega) (by omega), hst.get (i := i) (by show i < L.length; omega)]
            have hpe : pairsN nl L rule rd S (i + 1) = pairN nl L rule rd i (pairsN nl L rule rd S i) en := by rw [← hL]; exact if_pos hpi
            refine l_X2_applyToPairs_i hr ht sp en rd rule ta nl hnl h a am S L hL hS hru i (by omega) (pairsN nl L rule rd S i) hst (fun F n ov y1 hR => ?_) C E (en + 1) sp F n ov y1 (by omega) (by omega) ?_
            · skip
              refine z_iinc (q := 175) (v := nI (i + 1)) (lv' := [(3, .int (nI (i + 1))), (0, .ref hr), (1, .int (firstP rule)), (2, .ref (a (setP rule))), (4, .int (L.getD i r0 0)), (5, .int (L.getD i r0 2)), (6, .int (wantV rule (L.getD i r0 0) (L.getD i r0 2)))]) C 3 dX2_applyToPairs_172 rfl rfl (k_inc1 i) (by decide) rfl ?_
              refine z_goto (tgt := 12) C dX2_applyToPairs_175 (by decide) ?_
              refine z_lv [1, 2, 3, 0] rfl ?_
              exact ih (i + 1) F n ov (nI i) y1 (by omega) (by omega) (by rw [hpe]; exact hR)
            · rw [hno i c91 hpi]; exact hR
        · skip
          refine z_aload_n (q := 69) C 2 rfl rfl dX2_applyToPairs_68 rfl ?_
          refine z_get (q := 72) (v := .int (nI rule)) C hiX2 0 5 rfl rfl (by decide) hf21 rfl dX2_applyToPairs_69 rfl ?_
          refine z_bipush (q := 74) C k_bipush_11 dX2_applyToPairs_72 rfl ?_
          refine z_icmp_ne_n (q := 77) (tgt := 82) C (by omega) (by omega) dX2_applyToPairs_74 (by decide) rfl (fun c74 => ?_) (fun c74 => ?_)
          · skip
            refine z_iload (q := 84) C 1 rfl dX2_applyToPairs_82 rfl ?_
            refine z_eqi (y := wantV rule (L.getD i r0 0) (L.getD i r0 2)) ((if_neg (fun z => z.elim c65 c74)).symm) ?_
            refine z_istore (q := 86) (lv' := [(6, .int (wantV rule (L.getD i r0 0) (L.getD i r0 2))), (5, .int (L.getD i r0 2)), (4, .int (L.getD i r0 0)), (0, .ref hr), (1, .int (firstP rule)), (2, .ref (a (setP rule))), (3, .int (nI i))]) C dX2_applyToPairs_84 rfl (by decide) rfl ?_
            refine z_iload_n (q := 87) C 6 rfl rfl dX2_applyToPairs_86 rfl ?_
            refine z_aload_n (q := 88) C 3 rfl rfl dX2_applyToPairs_87 rfl ?_
            refine z_get (q := 91) (v := .int (nI sp)) C hiX2 0 2 rfl rfl (by decide) hf9 rfl dX2_applyToPairs_88 rfl ?_
            refine z_icmp_ge_n (q := 94) (tgt := 101) C (by omega) (by omega) dX2_applyToPairs_91 (by decide) rfl (fun c91 => ?_) (fun c91 => ?_)
            · skip
              refine z_iconst (q := 102) C k_iconst_0 dX2_applyToPairs_101 rfl ?_
              refine z_istore (q := 104) (lv' := [(7, .int (nI 0)), (6, .int (wantV rule (L.getD i r0 0) (L.getD i r0 2))), (5, .int (L.getD i r0 2)), (4, .int (L.getD i r0 0)), (0, .ref hr), (1, .int (firstP rule)), (2, .ref (a (setP rule))), (3, .int (nI i))]) C dX2_applyToPairs_102 rfl (by decide) rfl ?_
              refine z_lv [4, 5, 6, 7, 3, 2, 1, 0] rfl ?_
              have hpi : L.getD i r0 1 = firstP rule := by rw [← c30, hR.at (i := i) (j := 1) (by omega) (by omega), hst.get (i := i) (by show i < L.length; omega)]
              have hpe : pairsN nl L rule rd S (i + 1) = pairN nl L rule rd i (pairsN nl L rule rd S i) en := by rw [← hL]; exact if_pos hpi
              refine l_X2_applyToPairs_i hr ht sp en rd rule ta nl hnl h a am S L hL hS hru i (by omega) (pairsN nl L rule rd S i) hst (fun F n ov y1 hR => ?_) C E (en + 1) 0 F n ov y1 (by omega) (by omega) ?_
              · skip
                refine z_iinc (q := 175) (v := nI (i + 1)) (lv' := [(3, .int (nI (i + 1))), (0, .ref hr), (1, .int (firstP rule)), (2, .ref (a (setP rule))), (4, .int (L.getD i r0 0)), (5, .int (L.getD i r0 2)), (6, .int (wantV rule (L.getD i r0 0) (L.getD i r0 2)))]) C 3 dX2_applyToPairs_172 rfl rfl (k_inc1 i) (by decide) rfl ?_
                refine z_goto (tgt := 12) C dX2_applyToPairs_175 (by decide) ?_
                refine z_lv [1, 2, 3, 0] rfl ?_
                exact ih (i + 1) F n ov (nI i) y1 (by omega) (by omega) (by rw [hpe]; exact hR)
              · exact hR
            · skip
              refine z_aload_n (q := 95) C 3 rfl rfl dX2_applyToPairs_94 rfl ?_
              refine z_get (q := 98) (v := .int (nI sp)) C hiX2 0 2 rfl rfl (by decide) hf9 rfl dX2_applyToPairs_95 rfl ?_
              refine z_goto (tgt := 102) C dX2_applyToPairs_98 (by decide) ?_
              refine z_istore (q := 104) (lv' := [(7, .int (nI sp)), (6, .int (wantV rule (L.getD i r0 0) (L.getD i r0 2))), (5, .int (L.getD i r0 2)), (4, .int (L.getD i r0 0)), (0, .ref hr), (1, .int (firstP rule)), (2, .ref (a (setP rule))), (3, .int (nI i))]) C dX2_applyToPairs_102 rfl (by decide) rfl ?_
              refine z_lv [4, 5, 6, 7, 3, 2, 1, 0] rfl ?_
              have hpi : L.getD i r0 1 = firstP rule := by rw [← c30, hR.at (i := i) (j := 1) (by omega) (by omega), hst.get (i := i) (by show i < L.length; omega)]
              have hpe : pairsN nl L rule rd S (i + 1) = pairN nl L rule rd i (pairsN nl L rule rd S i) en := by rw [← hL]; exact if_pos hpi
              refine l_X2_applyToPairs_i hr ht sp en rd rule ta nl hnl h a am S L hL hS hru i (by omega) (pairsN nl L rule rd S i) hst (fun F n ov y1 hR => ?_) C E (en + 1) sp F n ov y1 (by omega) (by omega) ?_
              · skip
                refine z_iinc (q := 175) (v := nI (i + 1)) (lv' := [(3, .int (nI (i + 1))), (0, .ref hr), (1, .int (firstP rule)), (2, .ref (a (setP rule))), (4, .int (L.getD i r0 0)), (5, .int (L.getD i r0 2)), (6, .int (wantV rule (L.getD i r0 0) (L.getD i r0 2)))]) C 3 dX2_applyToPairs_172 rfl rfl (k_inc1 i) (by decide) rfl ?_
                refine z_goto (tgt := 12) C dX2_applyToPairs_175 (by decide) ?_
                refine z_lv [1, 2, 3, 0] rfl ?_
                exact ih (i + 1) F n ov (nI i) y1 (by omega) (by omega) (by rw [hpe]; exact hR)
              · rw [hno i c91 hpi]; exact hR
          · skip
            refine z_iload (q := 79) C 0 rfl dX2_applyToPairs_77 rfl ?_
            refine z_goto (tgt := 84) C dX2_applyToPairs_79 (by decide) ?_
            refine z_eqi (y := wantV rule (L.getD i r0 0) (L.getD i r0 2)) ((if_pos (Or.inr c74)).symm) ?_
            refine z_istore (q := 86) (lv' := [(6, .int (wantV rule (L.getD i r0 0) (L.getD i r0 2))), (5, .int (L.getD i r0 2)), (4, .int (L.getD i r0 0)), (0, .ref hr), (1, .int (firstP rule)), (2, .ref (a (setP rule))), (3, .int (nI i))]) C dX2_applyToPairs_84 rfl (by decide) rfl ?_
            refine z_iload_n (q := 87) C 6 rfl rfl dX2_applyToPairs_86 rfl ?_
            refine z_aload_n (q := 88) C 3 rfl rfl dX2_applyToPairs_87 rfl ?_
            refine z_get (q := 91) (v := .int (nI sp)) C hiX2 0 2 rfl rfl (by decide) hf9 rfl dX2_applyToPairs_88 rfl ?_
            refine z_icmp_ge_n (q := 94) (tgt := 101) C (by omega) (by omega) dX2_applyToPairs_91 (by decide) rfl (fun c91 => ?_) (fun c91 => ?_)
            · skip
              refine z_iconst (q := 102) C k_iconst_0 dX2_applyToPairs_101 rfl ?_
              refine z_istore (q := 104) (lv' := [(7, .int (nI 0)), (6, .int (wantV rule (L.getD i r0 0) (L.getD i r0 2))), (5, .int (L.getD i r0 2)), (4, .int (L.getD i r0 0)), (0, .ref hr), (1, .int (firstP rule)), (2, .ref (a (setP rule))), (3, .int (nI i))]) C dX2_applyToPairs_102 rfl (by decide) rfl ?_
              refine z_lv [4, 5, 6, 7, 3, 2, 1, 0] rfl ?_
              have hpi : L.getD i r0 1 = firstP rule := by rw [← c30, hR.at (i := i) (j := 1) (by omega) (by omega), hst.get (i := i) (by show i < L.length; omega)]
              have hpe : pairsN nl L rule rd S (i + 1) = pairN nl L rule rd i (pairsN nl L rule rd S i) en := by rw [← hL]; exact if_pos hpi
              refine l_X2_applyToPairs_i hr ht sp en rd rule ta nl hnl h a am S L hL hS hru i (by omega) (pairsN nl L rule rd S i) hst (fun F n ov y1 hR => ?_) C E (en + 1) 0 F n ov y1 (by omega) (by omega) ?_
              · skip
                refine z_iinc (q := 175) (v := nI (i + 1)) (lv' := [(3, .int (nI (i + 1))), (0, .ref hr), (1, .int (firstP rule)), (2, .ref (a (setP rule))), (4, .int (L.getD i r0 0)), (5, .int (L.getD i r0 2)), (6, .int (wantV rule (L.getD i r0 0) (L.getD i r0 2)))]) C 3 dX2_applyToPairs_172 rfl rfl (k_inc1 i) (by decide) rfl ?_
                refine z_goto (tgt := 12) C dX2_applyToPairs_175 (by decide) ?_
                refine z_lv [1, 2, 3, 0] rfl ?_
                exact ih (i + 1) F n ov (nI i) y1 (by omega) (by omega) (by rw [hpe]; exact hR)
              · exact hR
            · skip
              refine z_aload_n (q := 95) C 3 rfl rfl dX2_applyToPairs_94 rfl ?_
              refine z_get (q := 98) (v := .int (nI sp)) C hiX2 0 2 rfl rfl (by decide) hf9 rfl dX2_applyToPairs_95 rfl ?_
              refine z_goto (tgt := 102) C dX2_applyToPairs_98 (by decide) ?_
              refine z_istore (q := 104) (lv' := [(7, .int (nI sp)), (6, .int (wantV rule (L.getD i r0 0) (L.getD i r0 2))), (5, .int (L.getD i r0 2)), (4, .int (L.getD i r0 0)), (0, .ref hr), (1, .int (firstP rule)), (2, .ref (a (setP rule))), (3, .int (nI i))]) C dX2_applyToPairs_102 rfl (by decide) rfl ?_
              refine z_lv [4, 5, 6, 7, 3, 2, 1, 0] rfl ?_
              have hpi : L.getD i r0 1 = firstP rule := by rw [← c30, hR.at (i := i) (j := 1) (by omega) (by omega), hst.get (i := i) (by show i < L.length; omega)]
              have hpe : pairsN nl L rule rd S (i + 1) = pairN nl L rule rd i (pairsN nl L rule rd S i) en := by rw [← hL]; exact if_pos hpi
              refine l_X2_applyToPairs_i hr ht sp en rd rule ta nl hnl h a am S L hL hS hru i (by omega) (pairsN nl L rule rd S i) hst (fun F n ov y1 hR => ?_) C E (en + 1) sp F n ov y1 (by omega) (by omega) ?_
              · skip
                refine z_iinc (q := 175) (v := nI (i + 1)) (lv' := [(3, .int (nI (i + 1))), (0, .ref hr), (1, .int (firstP rule)), (2, .ref (a (setP rule))), (4, .int (L.getD i r0 0)), (5, .int (L.getD i r0 2)), (6, .int (wantV rule (L.getD i r0 0) (L.getD i r0 2)))]) C 3 dX2_applyToPairs_172 rfl rfl (k_inc1 i) (by decide) rfl ?_
                refine z_goto (tgt := 12) C dX2_applyToPairs_175 (by decide) ?_
                refine z_lv [1, 2, 3, 0] rfl ?_
                exact ih (i + 1) F n ov (nI i) y1 (by omega) (by omega) (by rw [hpe]; exact hR)
              · rw [hno i c91 hpi]; exact hR

set_option maxHeartbeats 4000000 in
set_option maxRecDepth 100000 in
theorem c_X2_applyToPairs (l : Launch) (D : va_G) (g : ClassId × ClassId × ClassId) (hr ht : Nat) (sp en : Nat) (rd : Int32) (rule : Nat) (x y : Int32) (ta nl : Nat) (hnl : nl ≤ 40) (h : Nat) (a : Nat → Nat) (F : Nat → Nat → Int32) (n : Nat) (ov : Bool) (am : Int32) (S : RSt) (hR : rowsRep F n ov S) (L : List Row) (hL : L.length = en) (hS : stp (L, false) S) (hru : rule = 2 ∨ rule = 3 ∨ rule = 5 ∨ rule = 7 ∨ rule = 9 ∨ rule = 11) (hse : sp ≤ en) (hno : ∀ i, i < sp → L.getD i r0 1 = firstP rule → pairN nl L rule rd i (pairsN nl L rule rd S i) sp = pairsN nl L rule rd S i) : zM l yX2_applyToPairs wsX2_applyToPairs ({ frames := 4, cells := 0, slots := 0, locals := 102 } : Room) D g [.ref hr] [(hr, .inr (2, [.ref ht, .ref h, .int (nI sp), .int (nI en), .int rd, .int (nI rule), .int x, .int y])), (ht, .inr (4, [.ref ta, .int (nI nl)])), (h, .inr (3, [.ref (a 0), .ref (a 1), .ref (a 2), .ref (a 3), .ref (a 4), .ref (a 5), .ref (a 6), .ref (a 7), .ref (a 8), .int (nI n), .int (zb ov), .int am])), (a 0, .inl (g.1, 600, .inl (F 0))), (a 1, .inl (g.1, 600, .inl (F 1))), (a 2, .inl (g.1, 600, .inl (F 2))), (a 3, .inl (g.1, 600, .inl (F 3))), (a 4, .inl (g.1, 600, .inl (F 4))), (a 5, .inl (g.1, 600, .inl (F 5))), (a 6, .inl (g.1, 600, .inl (F 6))), (a 7, .inl (g.1, 1024, .inl (F 7))), (a 8, .inl (g.2.1, 600, .inl (F 8)))] 0 0 (fun v w1 => ∃ (F1 : Nat → Nat → Int32) (n1 : Nat) (o1 : Bool) (x1 y1 : Int32), rowsRep F1 n1 o1 (pairsN nl L rule rd S en) ∧ v = none ∧ w1 = [(hr, .inr (2, [.ref ht, .ref h, .int (nI sp), .int (nI en), .int rd, .int (nI rule), .int x1, .int y1])), (ht, .inr (4, [.ref ta, .int (nI nl)])), (h, .inr (3, [.ref (a 0), .ref (a 1), .ref (a 2), .ref (a 3), .ref (a 4), .ref (a 5), .ref (a 6), .ref (a 7), .ref (a 8), .int (nI n1), .int (zb o1), .int am])), (a 0, .inl (g.1, 600, .inl (F1 0))), (a 1, .inl (g.1, 600, .inl (F1 1))), (a 2, .inl (g.1, 600, .inl (F1 2))), (a 3, .inl (g.1, 600, .inl (F1 3))), (a 4, .inl (g.1, 600, .inl (F1 4))), (a 5, .inl (g.1, 600, .inl (F1 5))), (a 6, .inl (g.1, 600, .inl (F1 6))), (a 7, .inl (g.1, 1024, .inl (F1 7))), (a 8, .inl (g.2.1, 600, .inl (F1 8)))]) := by
  refine z_met (cc := cX2_applyToPairs) (maxL := 8) (ret := none) (lv := [(0, .ref hr)]) (by decide) rfl (Nat.le_of_ble_eq_true rfl) rfl ?_
  intro X hXD hXg hXl hnm C E
  subst hXD hXg hXl
  have C : zC X cX2_applyToPairs 8 RX2 wsX2_applyToPairs ({ frames := 4, cells := 0, slots := 0, locals := 102 } : Room) := C
  have hn6 := hR.le
  have hr14 : rule < 14 := by omega
  refine z_aload_n (q := 1) C 0 rfl rfl dX2_applyToPairs_0 rfl ?_
  refine z_callV (q := 4) (n := 0) (As := []) (rest := []) (wr := [(ht, .inr (4, [.ref ta, .int (nI nl)])), (h, .inr (3, [.ref (a 0), .ref (a 1), .ref (a 2), .ref (a 3), .ref (a 4), .ref (a 5), .ref (a 6), .ref (a 7), .ref (a 8), .int (nI n), .int (zb ov), .int am])), (a 0, .inl (X.cI, 600, .inl (F 0))), (a 1, .inl (X.cI, 600, .inl (F 1))), (a 2, .inl (X.cI, 600, .inl (F 2))), (a 3, .inl (X.cI, 600, .inl (F 3))), (a 4, .inl (X.cI, 600, .inl (F 4))), (a 5, .inl (X.cI, 600, .inl (F 5))), (a 6, .inl (X.cI, 600, .inl (F 6))), (a 7, .inl (X.cI, 1024, .inl (F 7))), (a 8, .inl (X.cZ, 600, .inl (F 8)))]) C (c_X2_firstProperty X.l X.D X.2.1 hr ht h sp en rd rule x y (by omega)) gX2_applyToPairs_X2_firstProperty rfl rfl rfl (by decide +kernel) (by decide) ⟨by first | decide | omega, by first | decide | omega⟩ 0 2 rfl rfl [0] [1, 2, 3, 4, 5, 6, 7, 8, 9, 10, 11] rfl rfl (by decide) (by decide) (by decide) rfl rfl (Nat.le_of_ble_eq_true rfl) dX2_applyToPairs_1 rfl (fun v w1 hp => ?_)
  obtain ⟨rfl, rfl⟩ := hp
  show zW X 8 [(ht, .inr (4, [.ref ta, .int (nI nl)])), (h, .inr (3, [.ref (a 0), .ref (a 1), .ref (a 2), .ref (a 3), .ref (a 4), .ref (a 5), .ref (a 6), .ref (a 7), .ref (a 8), .int (nI n), .int (zb ov), .int am])), (a 0, .inl (X.cI, 600, .inl (F 0))), (a 1, .inl (X.cI, 600, .inl (F 1))), (a 2, .inl (X.cI, 600, .inl (F 2))), (a 3, .inl (X.cI, 600, .inl (F 3))), (a 4, .inl (X.cI, 600, .inl (F 4))), (a 5, .inl (X.cI, 600, .inl (F 5))), (a 6, .inl (X.cI, 600, .inl (F 6))), (a 7, .inl (X.cI, 1024, .inl (F 7))), (a 8, .inl (X.cZ, 600, .inl (F 8))), (hr, .inr (2, [.ref ht, .ref h, .int (nI sp), .int (nI en), .int rd, .int (nI rule), .int x, .int y]))] _ _ 4 _ [.int (firstP rule)]
  refine z_istore_n (q := 5) (lv' := [(1, .int (firstP rule)), (0, .ref hr)]) C rfl dX2_applyToPairs_4 rfl (by decide) rfl ?_
  refine z_aload_n (q := 6) C 1 rfl rfl dX2_applyToPairs_5 rfl ?_
  refine z_callV (q := 9) (n := 0) (As := []) (rest := []) (wr := [(ht, .inr (4, [.ref ta, .int (nI nl)])), (a 0, .inl (X.cI, 600, .inl (F 0))), (a 1, .inl (X.cI, 600, .inl (F 1))), (a 2, .inl (X.cI, 600, .inl (F 2))), (a 3, .inl (X.cI, 600, .inl (F 3))), (a 4, .inl (X.cI, 600, .inl (F 4))), (a 5, .inl (X.cI, 600, .inl (F 5))), (a 6, .inl (X.cI, 600, .inl (F 6))), (a 7, .inl (X.cI, 1024, .inl (F 7))), (a 8, .inl (X.cZ, 600, .inl (F 8)))]) C (c_X2_settledParts X.l X.D X.2.1 hr ht h a n ov am sp en rd rule x y hru) gX2_applyToPairs_X2_settledParts rfl rfl rfl (by decide +kernel) (by decide) ⟨by first | decide | omega, by first | decide | omega⟩ 0 2 rfl rfl [11, 1] [0, 2, 3, 4, 5, 6, 7, 8, 9, 10] rfl rfl (by decide) (by decide) (by decide) rfl rfl (Nat.le_of_ble_eq_true rfl) dX2_applyToPairs_6 rfl (fun v w1 hp => ?_)
  obtain ⟨rfl, rfl⟩ := hp
  show zW X 8 [(ht, .inr (4, [.ref ta, .int (nI nl)])), (a 0, .inl (X.cI, 600, .inl (F 0))), (a 1, .inl (X.cI, 600, .inl (F 1))), (a 2, .inl (X.cI, 600, .inl (F 2))), (a 3, .inl (X.cI, 600, .inl (F 3))), (a 4, .inl (X.cI, 600, .inl (F 4))), (a 5, .inl (X.cI, 600, .inl (F 5))), (a 6, .inl (X.cI, 600, .inl (F 6))), (a 7, .inl (X.cI, 1024, .inl (F 7))), (a 8, .inl (X.cZ, 600, .inl (F 8))), (hr, .inr (2, [.ref ht, .ref h, .int (nI sp), .int (nI en), .int rd, .int (nI rule), .int x, .int y])), (h, .inr (3, [.ref (a 0), .ref (a 1), .ref (a 2), .ref (a 3), .ref (a 4), .ref (a 5), .ref (a 6), .ref (a 7), .ref (a 8), .int (nI n), .int (zb ov), .int am]))] _ _ 9 _ [.ref (a (setP rule))]
  refine z_astore_n (q := 10) (lv' := [(2, .ref (a (setP rule))), (1, .int (firstP rule)), (0, .ref hr)]) C rfl dX2_applyToPairs_9 rfl (by decide) rfl ?_
  refine z_iconst (q := 11) C k_iconst_0 dX2_applyToPairs_10 rfl ?_
  refine z_istore_n (q := 12) (lv' := [(3, .int (nI 0)), (2, .ref (a (setP rule))), (1, .int (firstP rule)), (0, .ref hr)]) C rfl dX2_applyToPairs_11 rfl (by decide) rfl ?_
  refine z_lv [3, 2, 1, 0] rfl ?_
  refine z_ws (ws' := [(hr, .inr (2, [.ref ht, .ref h, .int (nI sp), .int (nI en), .int rd, .int (nI rule), .int x, .int y])), (ht, .inr (4, [.ref ta, .int (nI nl)])), (h, .inr (3, [.ref (a 0), .ref (a 1), .ref (a 2), .ref (a 3), .ref (a 4), .ref (a 5), .ref (a 6), .ref (a 7), .ref (a 8), .int (nI n), .int (zb ov), .int am])), (a 0, .inl (X.cI, 600, .inl (F 0))), (a 1, .inl (X.cI, 600, .inl (F 1))), (a 2, .inl (X.cI, 600, .inl (F 2))), (a 3, .inl (X.cI, 600, .inl (F 3))), (a 4, .inl (X.cI, 600, .inl (F 4))), (a 5, .inl (X.cI, 600, .inl (F 5))), (a 6, .inl (X.cI, 600, .inl (F 6))), (a 7, .inl (X.cI, 1024, .inl (F 7))), (a 8, .inl (X.cZ, 600, .inl (F 8)))]) [10, 0, 11, 1, 2, 3, 4, 5, 6, 7, 8, 9] (by decide) rfl ?_
  exact l_X2_applyToPairs hr ht sp en rd rule ta nl hnl h a am S L hL hS hru hse hno hr14 C E (en + 1) 0 F n ov x y (by omega) (by omega) hR
