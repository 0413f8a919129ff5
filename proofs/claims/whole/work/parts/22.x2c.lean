theorem firstP_pairs {r : Nat} (h : ¬ firstP r = (-1)) : r = 2 ∨ r = 3 ∨ r = 5 ∨ r = 7 ∨ r = 9 ∨ r = 11 := by
  unfold firstP at h
  split at h <;> first | omega | exact absurd rfl h
theorem firstP_sing {r : Nat} (hr : r < 14) (h : firstP r = (-1)) : r = 0 ∨ r = 1 ∨ r = 4 ∨ r = 6 ∨ r = 8 ∨ r = 10 ∨ r = 12 ∨ r = 13 := by
  have h2 : ¬ r = 2 := fun e => by subst e; exact absurd h (by decide)
  have h3 : ¬ r = 3 := fun e => by subst e; exact absurd h (by decide)
  have h5 : ¬ r = 5 := fun e => by subst e; exact absurd h (by decide)
  have h7 : ¬ r = 7 := fun e => by subst e; exact absurd h (by decide)
  have h9 : ¬ r = 9 := fun e => by subst e; exact absurd h (by decide)
  have h11 : ¬ r = 11 := fun e => by subst e; exact absurd h (by decide)
  omega
theorem closeN_full {nl : Nat} {f : Nat → Int32} {t made : Nat} {L : List Row} (h : (roundN nl f L (nI (made + 1)) 14).2 = true) : closeN nl f (t + 1) made L = (roundN nl f L (nI (made + 1)) 14, (-1)) := if_pos h
theorem closeN_end {nl : Nat} {f : Nat → Int32} {t made : Nat} {L : List Row} (h : (roundN nl f L (nI (made + 1)) 14).2 = false) (h2 : (roundN nl f L (nI (made + 1)) 14).1.length = L.length) : closeN nl f (t + 1) made L = (roundN nl f L (nI (made + 1)) 14, nI made) := by
  show (if _ then _ else _) = _
  rw [if_neg (by rw [h]; decide), if_pos h2]
theorem closeN_on {nl : Nat} {f : Nat → Int32} {t made : Nat} {L : List Row} (h : (roundN nl f L (nI (made + 1)) 14).2 = false) (h2 : ¬ (roundN nl f L (nI (made + 1)) 14).1.length = L.length) : closeN nl f (t + 1) made L = closeN nl f t (made + 1) (roundN nl f L (nI (made + 1)) 14).1 := by
  show (if _ then _ else _) = _
  rw [if_neg (by rw [h]; decide), if_neg h2]

set_option maxHeartbeats 4000000 in
set_option maxRecDepth 100000 in
theorem l_X2_close_r {X : zX} (hr ht : Nat) (ta nl : Nat) (hnl : nl ≤ 40) (tf : Nat → Int32) (h : Nat) (a : Nat → Nat) (am : Int32) (L1 : List Row) (made : Nat) (hmade : made ≤ 600) (L : List Row) (sp en : Nat) (hL : L.length = en) (hse : sp ≤ en) (hen : en ≤ 600) (hD : DONE nl tf sp L) (hnext : ∀ (F : Nat → Nat → Int32) (n : Nat) (ov : Bool) (mk x y : Int32), rowsRep F n ov (roundN nl tf L (nI (made + 1)) 14) → zW X 4 [(hr, .inr (2, [.ref ht, .ref h, .int (nI sp), .int (nI en), .int (nI (made + 1)), .int mk, .int x, .int y])), (ht, .inr (4, [.ref ta, .int (nI nl)])), (ta, .inl (X.cI, 40, .inl tf)), (h, .inr (3, [.ref (a 0), .ref (a 1), .ref (a 2), .ref (a 3), .ref (a 4), .ref (a 5), .ref (a 6), .ref (a 7), .ref (a 8), .int (nI n), .int (zb ov), .int am])), (a 0, .inl (X.cI, 600, .inl (F 0))), (a 1, .inl (X.cI, 600, .inl (F 1))), (a 2, .inl (X.cI, 600, .inl (F 2))), (a 3, .inl (X.cI, 600, .inl (F 3))), (a 4, .inl (X.cI, 600, .inl (F 4))), (a 5, .inl (X.cI, 600, .inl (F 5))), (a 6, .inl (X.cI, 600, .inl (F 6))), (a 7, .inl (X.cI, 1024, .inl (F 7))), (a 8, .inl (X.cZ, 600, .inl (F 8)))] 0 0 85 [(0, .ref hr), (1, .ref h), (2, .int (nI made))] []) (C : zC X cX2_close 4 RX2 wsX2_close ({ frames := 5, cells := 0, slots := 0, locals := 129 } : Room)) (E : zE X (some .int) 0 0 (fun v w1 => ∃ (F1 : Nat → Nat → Int32) (n1 : Nat) (o1 : Bool) (s1 e1 rd mk x y : Int32), rowsRep F1 n1 o1 (closeN nl tf 601 0 L1).1 ∧ v = some (.int (closeN nl tf 601 0 L1).2) ∧ w1 = [(hr, .inr (2, [.ref ht, .ref h, .int s1, .int e1, .int rd, .int mk, .int x, .int y])), (ht, .inr (4, [.ref ta, .int (nI nl)])), (ta, .inl (X.cI, 40, .inl tf)), (h, .inr (3, [.ref (a 0), .ref (a 1), .ref (a 2), .ref (a 3), .ref (a 4), .ref (a 5), .ref (a 6), .ref (a 7), .ref (a 8), .int (nI n1), .int (zb o1), .int am])), (a 0, .inl (X.cI, 600, .inl (F1 0))), (a 1, .inl (X.cI, 600, .inl (F1 1))), (a 2, .inl (X.cI, 600, .inl (F1 2))), (a 3, .inl (X.cI, 600, .inl (F1 3))), (a 4, .inl (X.cI, 600, .inl (F1 4))), (a 5, .inl (X.cI, 600, .inl (F1 5))), (a 6, .inl (X.cI, 600, .inl (F1 6))), (a 7, .inl (X.cI, 1024, .inl (F1 7))), (a 8, .inl (X.cZ, 600, .inl (F1 8)))])) : ∀ (m : Nat) (r : Nat) (F : Nat → Nat → Int32) (n : Nat) (ov : Bool) (mk x y : Int32), r ≤ 14 → 14 < r + m → rowsRep F n ov (roundN nl tf L (nI (made + 1)) r) → zW X 4 [(hr, .inr (2, [.ref ht, .ref h, .int (nI sp), .int (nI en), .int (nI (made + 1)), .int mk, .int x, .int y])), (ht, .inr (4, [.ref ta, .int (nI nl)])), (ta, .inl (X.cI, 40, .inl tf)), (h, .inr (3, [.ref (a 0), .ref (a 1), .ref (a 2), .ref (a 3), .ref (a 4), .ref (a 5), .ref (a 6), .ref (a 7), .ref (a 8), .int (nI n), .int (zb ov), .int am])), (a 0, .inl (X.cI, 600, .inl (F 0))), (a 1, .inl (X.cI, 600, .inl (F 1))), (a 2, .inl (X.cI, 600, .inl (F 2))), (a 3, .inl (X.cI, 600, .inl (F 3))), (a 4, .inl (X.cI, 600, .inl (F 4))), (a 5, .inl (X.cI, 600, .inl (F 5))), (a 6, .inl (X.cI, 600, .inl (F 6))), (a 7, .inl (X.cI, 1024, .inl (F 7))), (a 8, .inl (X.cZ, 600, .inl (F 8)))] 0 0 39 [(0, .ref hr), (1, .ref h), (2, .int (nI made)), (3, .int (nI r))] [] := by
  have hiX2 : ∀ w ∈ u_ws RX2 TX2 8, w ∈ wsX2_close := by decide +kernel
  have hf21 : Cond.fieldLink RX2 21 "RdfsRules$Reasoner" "maker" "I" ∈ wsX2_close := by decide +kernel
  have hf34 : Cond.fieldLink RX2 34 "RdfsRules$Reasoner" "rows" "LRdfsRules$Rows;" ∈ wsX2_close := by decide +kernel
  intro m
  induction m with
  | zero =>
    intro r F n ov mk x y hr14 hm hR
    exfalso
    omega
  | succ m ih =>
    intro r F n ov mk x y hr14 hm hR
    have hn6 := hR.le
    refine z_iload_n (q := 40) C 3 rfl rfl dX2_close_39 rfl ?_
    refine z_bipush (q := 42) C k_bipush_14 dX2_close_40 rfl ?_
    refine z_icmp_ge_n (q := 45) (tgt := 85) C (by omega) (by omega) dX2_close_42 (by decide) rfl (fun c42 => ?_) (fun c42 => ?_)
    · skip
      refine z_lv [0, 1, 2] rfl ?_
      obtain rfl : r = 14 := by omega
      exact hnext F n ov mk x y hR
    · skip
      refine z_aload_n (q := 46) C 0 rfl rfl dX2_close_45 rfl ?_
      refine z_get (q := 49) (v := .ref h) C hiX2 0 1 rfl rfl (by decide) hf34 rfl dX2_close_46 rfl ?_
      refine z_callV (q := 52) (n := 0) (As := []) (rest := []) (wr := [(hr, .inr (2, [.ref ht, .ref h, .int (nI sp), .int (nI en), .int (nI (made + 1)), .int mk, .int x, .int y])), (ht, .inr (4, [.ref ta, .int (nI nl)])), (ta, .inl (X.cI, 40, .inl tf)), (a 0, .inl (X.cI, 600, .inl (F 0))), (a 1, .inl (X.cI, 600, .inl (F 1))), (a 2, .inl (X.cI, 600, .inl (F 2))), (a 3, .inl (X.cI, 600, .inl (F 3))), (a 4, .inl (X.cI, 600, .inl (F 4))), (a 5, .inl (X.cI, 600, .inl (F 5))), (a 6, .inl (X.cI, 600, .inl (F 6))), (a 7, .inl (X.cI, 1024, .inl (F 7))), (a 8, .inl (X.cZ, 600, .inl (F 8)))]) C (c_X3_isOverfull X.l X.D X.2.1 h a n ov am) gX2_close_X3_isOverfull rfl rfl rfl (by decide +kernel) (by decide) ⟨by first | decide | omega, by first | decide | omega⟩ 0 3 rfl rfl [3] [0, 1, 2, 4, 5, 6, 7, 8, 9, 10, 11, 12] rfl rfl (by decide) (by decide) (by decide) rfl rfl (Nat.le_of_ble_eq_true rfl) dX2_close_49 rfl (fun v w1 hp => ?_)
      obtain ⟨rfl, rfl⟩ := hp
      show zW X 4 [(hr, .inr (2, [.ref ht, .ref h, .int (nI sp), .int (nI en), .int (nI (made + 1)), .int mk, .int x, .int y])), (ht, .inr (4, [.ref ta, .int (nI nl)])), (ta, .inl (X.cI, 40, .inl tf)), (a 0, .inl (X.cI, 600, .inl (F 0))), (a 1, .inl (X.cI, 600, .inl (F 1))), (a 2, .inl (X.cI, 600, .inl (F 2))), (a 3, .inl (X.cI, 600, .inl (F 3))), (a 4, .inl (X.cI, 600, .inl (F 4))), (a 5, .inl (X.cI, 600, .inl (F 5))), (a 6, .inl (X.cI, 600, .inl (F 6))), (a 7, .inl (X.cI, 1024, .inl (F 7))), (a 8, .inl (X.cZ, 600, .inl (F 8))), (h, .inr (3, [.ref (a 0), .ref (a 1), .ref (a 2), .ref (a 3), .ref (a 4), .ref (a 5), .ref (a 6), .ref (a 7), .ref (a 8), .int (nI n), .int (zb ov), .int am]))] _ _ 52 _ [.int (zb ov)]
      refine z_if_ne_b (q := 55) (tgt := 85) C dX2_close_52 (by decide) rfl (fun c52 => ?_) (fun c52 => ?_)
      · skip
        refine z_lv [0, 1, 2] rfl ?_
        refine z_ws (ws' := [(hr, .inr (2, [.ref ht, .ref h, .int (nI sp), .int (nI en), .int (nI (made + 1)), .int mk, .int x, .int y])), (ht, .inr (4, [.ref ta, .int (nI nl)])), (ta, .inl (X.cI, 40, .inl tf)), (h, .inr (3, [.ref (a 0), .ref (a 1), .ref (a 2), .ref (a 3), .ref (a 4), .ref (a 5), .ref (a 6), .ref (a 7), .ref (a 8), .int (nI n), .int (zb ov), .int am])), (a 0, .inl (X.cI, 600, .inl (F 0))), (a 1, .inl (X.cI, 600, .inl (F 1))), (a 2, .inl (X.cI, 600, .inl (F 2))), (a 3, .inl (X.cI, 600, .inl (F 3))), (a 4, .inl (X.cI, 600, .inl (F 4))), (a 5, .inl (X.cI, 600, .inl (F 5))), (a 6, .inl (X.cI, 600, .inl (F 6))), (a 7, .inl (X.cI, 1024, .inl (F 7))), (a 8, .inl (X.cZ, 600, .inl (F 8)))]) [0, 1, 2, 12, 3, 4, 5, 6, 7, 8, 9, 10, 11] (by decide) rfl ?_
        exact hnext F n ov mk x y (by rw [(roundN_mono (nl := nl) (f := tf) (L := L) (rd := nI (made + 1)) r 14 (by omega)).2 (by rw [hR.2.2.1]; exact c52)]; exact hR)
      · skip
        refine z_aload_n (q := 56) C 0 rfl rfl dX2_close_55 rfl ?_
        refine z_iload_n (q := 57) C 3 rfl rfl dX2_close_56 rfl ?_
        refine z_put (q := 60) (ws' := [(hr, .inr (2, [.ref ht, .ref h, .int (nI sp), .int (nI en), .int (nI (made + 1)), .int (nI r), .int x, .int y])), (ht, .inr (4, [.ref ta, .int (nI nl)])), (ta, .inl (X.cI, 40, .inl tf)), (a 0, .inl (X.cI, 600, .inl (F 0))), (a 1, .inl (X.cI, 600, .inl (F 1))), (a 2, .inl (X.cI, 600, .inl (F 2))), (a 3, .inl (X.cI, 600, .inl (F 3))), (a 4, .inl (X.cI, 600, .inl (F 4))), (a 5, .inl (X.cI, 600, .inl (F 5))), (a 6, .inl (X.cI, 600, .inl (F 6))), (a 7, .inl (X.cI, 1024, .inl (F 7))), (a 8, .inl (X.cZ, 600, .inl (F 8))), (h, .inr (3, [.ref (a 0), .ref (a 1), .ref (a 2), .ref (a 3), .ref (a 4), .ref (a 5), .ref (a 6), .ref (a 7), .ref (a 8), .int (nI n), .int (zb ov), .int am]))]) C hiX2 tyX2_ok nmX2 0 5 rfl rfl (by decide) hf21 rfl rfl rfl (Nat.le_of_ble_eq_true rfl) dX2_close_57 rfl rfl ?_
        refine z_aload_n (q := 61) C 0 rfl rfl dX2_close_60 rfl ?_
        refine z_callV (q := 64) (n := 0) (As := []) (rest := []) (wr := [(ht, .inr (4, [.ref ta, .int (nI nl)])), (ta, .inl (X.cI, 40, .inl tf)), (a 0, .inl (X.cI, 600, .inl (F 0))), (a 1, .inl (X.cI, 600, .inl (F 1))), (a 2, .inl (X.cI, 600, .inl (F 2))), (a 3, .inl (X.cI, 600, .inl (F 3))), (a 4, .inl (X.cI, 600, .inl (F 4))), (a 5, .inl (X.cI, 600, .inl (F 5))), (a 6, .inl (X.cI, 600, .inl (F 6))), (a 7, .inl (X.cI, 1024, .inl (F 7))), (a 8, .inl (X.cZ, 600, .inl (F 8))), (h, .inr (3, [.ref (a 0), .ref (a 1), .ref (a 2), .ref (a 3), .ref (a 4), .ref (a 5), .ref (a 6), .ref (a 7), .ref (a 8), .int (nI n), .int (zb ov), .int am]))]) C (c_X2_firstProperty X.l X.D X.2.1 hr ht h sp en (nI (made + 1)) r x y (by omega)) gX2_close_X2_firstProperty rfl rfl rfl (by decide +kernel) (by decide) ⟨by first | decide | omega, by first | decide | omega⟩ 0 2 rfl rfl [0] [1, 2, 3, 4, 5, 6, 7, 8, 9, 10, 11, 12] rfl rfl (by decide) (by decide) (by decide) rfl rfl (Nat.le_of_ble_eq_true rfl) dX2_close_61 rfl (fun v w1 hp => ?_)
        obtain ⟨rfl, rfl⟩ := hp
        show zW X 4 [(ht, .inr (4, [.ref ta, .int (nI nl)])), (ta, .inl (X.cI, 40, .inl tf)), (a 0, .inl (X.cI, 600, .inl (F 0))), (a 1, .inl (X.cI, 600, .inl (F 1))), (a 2, .inl (X.cI, 600, .inl (F 2))), (a 3, .inl (X.cI, 600, .inl (F 3))), (a 4, .inl (X.cI, 600, .inl (F 4))), (a 5, .inl (X.cI, 600, .inl (F 5))), (a 6, .inl (X.cI, 600, .inl (F 6))), (a 7, .inl (X.cI, 1024, .inl (F 7))), (a 8, .inl (X.cZ, 600, .inl (F 8))), (h, .inr (3, [.ref (a 0), .ref (a 1), .ref (a 2), .ref (a 3), .ref (a 4), .ref (a 5), .ref (a 6), .ref (a 7), .ref (a 8), .int (nI n), .int (zb ov), .int am])), (hr, .inr (2, [.ref ht, .ref h, .int (nI sp), .int (nI en), .int (nI (made + 1)), .int (nI r), .int x, .int y]))] _ _ 64 _ [.int (firstP r)]
        refine z_iconst (q := 65) C k_iconst_m1 dX2_close_64 rfl ?_
        refine z_icmp_ne (q := 68) (tgt := 75) C dX2_close_65 (by decide) rfl (fun c65 => ?_) (fun c65 => ?_)
        · skip
          refine z_aload_n (q := 76) C 0 rfl rfl dX2_close_75 rfl ?_
          refine z_callV (q := 79) (n := 0) (As := []) (rest := []) (wr := [(ta, .inl (X.cI, 40, .inl tf))]) C (c_X2_applyToPairs X.l X.D X.2.1 hr ht sp en (nI (made + 1)) r x y ta nl hnl h a F n ov am (roundN nl tf L (nI (made + 1)) r) hR L hL (roundN_mono (nl := nl) (f := tf) (L := L) (rd := nI (made + 1)) 0 r (by omega)) (firstP_pairs c65) hse (fun i hi hp => hD.pair (by omega) hi hp ((roundN_mono (nl := nl) (f := tf) (L := L) (rd := nI (made + 1)) 0 r (by omega)).tr (pairsN_mono _ 0 i (Nat.zero_le _))) sp (Nat.le_refl _))) gX2_close_X2_applyToPairs rfl rfl rfl (by decide +kernel) (by decide) ⟨by first | decide | omega, by first | decide | omega⟩ 0 2 rfl rfl [12, 0, 11, 2, 3, 4, 5, 6, 7, 8, 9, 10] [1] rfl rfl (by decide) (by decide) (by decide) rfl rfl (Nat.le_of_ble_eq_true rfl) dX2_close_76 rfl (fun v w1 hp => ?_)
          obtain ⟨F1, n1, o1, x1, y1, hR1, rfl, rfl⟩ := hp
          show zW X 4 [(ta, .inl (X.cI, 40, .inl tf)), (hr, .inr (2, [.ref ht, .ref h, .int (nI sp), .int (nI en), .int (nI (made + 1)), .int (nI r), .int x1, .int y1])), (ht, .inr (4, [.ref ta, .int (nI nl)])), (h, .inr (3, [.ref (a 0), .ref (a 1), .ref (a 2), .ref (a 3), .ref (a 4), .ref (a 5), .ref (a 6), .ref (a 7), .ref (a 8), .int (nI n1), .int (zb o1), .int am])), (a 0, .inl (X.cI, 600, .inl (F1 0))), (a 1, .inl (X.cI, 600, .inl (F1 1))), (a 2, .inl (X.cI, 600, .inl (F1 2))), (a 3, .inl (X.cI, 600, .inl (F1 3))), (a 4, .inl (X.cI, 600, .inl (F1 4))), (a 5, .inl (X.cI, 600, .inl (F1 5))), (a 6, .inl (X.cI, 600, .inl (F1 6))), (a 7, .inl (X.cI, 1024, .inl (F1 7))), (a 8, .inl (X.cZ, 600, .inl (F1 8)))] _ _ 79 _ []
          refine z_iinc (q := 82) (v := nI (r + 1)) (lv' := [(3, .int (nI (r + 1))), (0, .ref hr), (1, .ref h), (2, .int (nI made))]) C 3 dX2_close_79 rfl rfl (k_inc1 r) (by decide) rfl ?_
          refine z_goto (tgt := 39) C dX2_close_82 (by decide) ?_
          refine z_lv [1, 2, 3, 0] rfl ?_
          refine z_ws (ws' := [(hr, .inr (2, [.ref ht, .ref h, .int (nI sp), .int (nI en), .int (nI (made + 1)), .int (nI r), .int x1, .int y1])), (ht, .inr (4, [.ref ta, .int (nI nl)])), (ta, .inl (X.cI, 40, .inl tf)), (h, .inr (3, [.ref (a 0), .ref (a 1), .ref (a 2), .ref (a 3), .ref (a 4), .ref (a 5), .ref (a 6), .ref (a 7), .ref (a 8), .int (nI n1), .int (zb o1), .int am])), (a 0, .inl (X.cI, 600, .inl (F1 0))), (a 1, .inl (X.cI, 600, .inl (F1 1))), (a 2, .inl (X.cI, 600, .inl (F1 2))), (a 3, .inl (X.cI, 600, .inl (F1 3))), (a 4, .inl (X.cI, 600, .inl (F1 4))), (a 5, .inl (X.cI, 600, .inl (F1 5))), (a 6, .inl (X.cI, 600, .inl (F1 6))), (a 7, .inl (X.cI, 1024, .inl (F1 7))), (a 8, .inl (X.cZ, 600, .inl (F1 8)))]) [1, 2, 0, 3, 4, 5, 6, 7, 8, 9, 10, 11, 12] (by decide) rfl ?_
          exact ih (r + 1) F1 n1 o1 (nI r) x1 y1 (by omega) (by omega) (by show rowsRep F1 n1 o1 (ruleS _ _ _ _ _ _); unfold ruleS; rw [if_neg c65, hL]; exact hR1)
        · skip
          refine z_aload_n (q := 69) C 0 rfl rfl dX2_close_68 rfl ?_
          refine z_callV (q := 72) (n := 0) (As := []) (rest := []) (wr := []) C (c_X2_applyToSingles X.l X.D X.2.1 hr ht sp en (nI (made + 1)) r x y ta nl hnl tf h a F n ov am (roundN nl tf L (nI (made + 1)) r) hR L hL (roundN_mono (nl := nl) (f := tf) (L := L) (rd := nI (made + 1)) 0 r (by omega)) (firstP_sing (by omega) c65) hse (hD.sing (by omega) (roundN_mono (nl := nl) (f := tf) (L := L) (rd := nI (made + 1)) 0 r (by omega)) sp (Nat.le_refl _))) gX2_close_X2_applyToSingles rfl rfl rfl (by decide +kernel) (by decide) ⟨by first | decide | omega, by first | decide | omega⟩ 0 2 rfl rfl [12, 0, 1, 11, 2, 3, 4, 5, 6, 7, 8, 9, 10] [] rfl rfl (by decide) (by decide) (by decide) rfl rfl (Nat.le_of_ble_eq_true rfl) dX2_close_69 rfl (fun v w1 hp => ?_)
          obtain ⟨F1, n1, o1, x1, hR1, rfl, rfl⟩ := hp
          show zW X 4 [(hr, .inr (2, [.ref ht, .ref h, .int (nI sp), .int (nI en), .int (nI (made + 1)), .int (nI r), .int x1, .int (-1)])), (ht, .inr (4, [.ref ta, .int (nI nl)])), (ta, .inl (X.cI, 40, .inl tf)), (h, .inr (3, [.ref (a 0), .ref (a 1), .ref (a 2), .ref (a 3), .ref (a 4), .ref (a 5), .ref (a 6), .ref (a 7), .ref (a 8), .int (nI n1), .int (zb o1), .int am])), (a 0, .inl (X.cI, 600, .inl (F1 0))), (a 1, .inl (X.cI, 600, .inl (F1 1))), (a 2, .inl (X.cI, 600, .inl (F1 2))), (a 3, .inl (X.cI, 600, .inl (F1 3))), (a 4, .inl (X.cI, 600, .inl (F1 4))), (a 5, .inl (X.cI, 600, .inl (F1 5))), (a 6, .inl (X.cI, 600, .inl (F1 6))), (a 7, .inl (X.cI, 1024, .inl (F1 7))), (a 8, .inl (X.cZ, 600, .inl (F1 8)))] _ _ 72 _ []
          refine z_goto (tgt := 79) C dX2_close_72 (by decide) ?_
          refine z_iinc (q := 82) (v := nI (r + 1)) (lv' := [(3, .int (nI (r + 1))), (0, .ref hr), (1, .ref h), (2, .int (nI made))]) C 3 dX2_close_79 rfl rfl (k_inc1 r) (by decide) rfl ?_
          refine z_goto (tgt := 39) C dX2_close_82 (by decide) ?_
          refine z_lv [1, 2, 3, 0] rfl ?_
          exact ih (r + 1) F1 n1 o1 (nI r) x1 (-1) (by omega) (by omega) (by show rowsRep F1 n1 o1 (ruleS _ _ _ _ _ _); unfold ruleS; rw [if_pos c65, hL]; exact hR1)

set_option maxHeartbeats 4000000 in
set_option maxRecDepth 100000 in
theorem l_X2_close {X : zX} (hr ht : Nat) (ta nl : Nat) (hnl : nl ≤ 40) (tf : Nat → Int32) (h : Nat) (a : Nat → Nat) (am : Int32) (L1 : List Row) (C : zC X cX2_close 4 RX2 wsX2_close ({ frames := 5, cells := 0, slots := 0, locals := 129 } : Room)) (E : zE X (some .int) 0 0 (fun v w1 => ∃ (F1 : Nat → Nat → Int32) (n1 : Nat) (o1 : Bool) (s1 e1 rd mk x y : Int32), rowsRep F1 n1 o1 (closeN nl tf 601 0 L1).1 ∧ v = some (.int (closeN nl tf 601 0 L1).2) ∧ w1 = [(hr, .inr (2, [.ref ht, .ref h, .int s1, .int e1, .int rd, .int mk, .int x, .int y])), (ht, .inr (4, [.ref ta, .int (nI nl)])), (ta, .inl (X.cI, 40, .inl tf)), (h, .inr (3, [.ref (a 0), .ref (a 1), .ref (a 2), .ref (a 3), .ref (a 4), .ref (a 5), .ref (a 6), .ref (a 7), .ref (a 8), .int (nI n1), .int (zb o1), .int am])), (a 0, .inl (X.cI, 600, .inl (F1 0))), (a 1, .inl (X.cI, 600, .inl (F1 1))), (a 2, .inl (X.cI, 600, .inl (F1 2))), (a 3, .inl (X.cI, 600, .inl (F1 3))), (a 4, .inl (X.cI, 600, .inl (F1 4))), (a 5, .inl (X.cI, 600, .inl (F1 5))), (a 6, .inl (X.cI, 600, .inl (F1 6))), (a 7, .inl (X.cI, 1024, .inl (F1 7))), (a 8, .inl (X.cZ, 600, .inl (F1 8)))])) : ∀ (m : Nat) (made : Nat) (L : List Row) (F : Nat → Nat → Int32) (n sp : Nat) (e1 rd mk x y : Int32), made ≤ 601 → 601 < made + m → rowsRep F n false (L, false) → sp ≤ L.length → DONE nl tf sp L → made ≤ L.length → closeN nl tf (601 - made) made L = closeN nl tf 601 0 L1 → zW X 4 [(hr, .inr (2, [.ref ht, .ref h, .int (nI sp), .int e1, .int rd, .int mk, .int x, .int y])), (ht, .inr (4, [.ref ta, .int (nI nl)])), (ta, .inl (X.cI, 40, .inl tf)), (h, .inr (3, [.ref (a 0), .ref (a 1), .ref (a 2), .ref (a 3), .ref (a 4), .ref (a 5), .ref (a 6), .ref (a 7), .ref (a 8), .int (nI n), .int (zb false), .int am])), (a 0, .inl (X.cI, 600, .inl (F 0))), (a 1, .inl (X.cI, 600, .inl (F 1))), (a 2, .inl (X.cI, 600, .inl (F 2))), (a 3, .inl (X.cI, 600, .inl (F 3))), (a 4, .inl (X.cI, 600, .inl (F 4))), (a 5, .inl (X.cI, 600, .inl (F 5))), (a 6, .inl (X.cI, 600, .inl (F 6))), (a 7, .inl (X.cI, 1024, .inl (F 7))), (a 8, .inl (X.cZ, 600, .inl (F 8)))] 0 0 12 [(0, .ref hr), (1, .ref h), (2, .int (nI made))] [] := by
  have hiX2 : ∀ w ∈ u_ws RX2 TX2 8, w ∈ wsX2_close := by decide +kernel
  have hf9 : Cond.fieldLink RX2 9 "RdfsRules$Reasoner" "spent" "I" ∈ wsX2_close := by decide +kernel
  have hf15 : Cond.fieldLink RX2 15 "RdfsRules$Reasoner" "end" "I" ∈ wsX2_close := by decide +kernel
  have hf18 : Cond.fieldLink RX2 18 "RdfsRules$Reasoner" "round" "I" ∈ wsX2_close := by decide +kernel
  have hf34 : Cond.fieldLink RX2 34 "RdfsRules$Reasoner" "rows" "LRdfsRules$Rows;" ∈ wsX2_close := by decide +kernel
  intro m
  induction m with
  | zero =>
    intro made L F n sp e1 rd mk x y hmd hm hR hse hD hml hfin
    exfalso
    omega
  | succ m ih =>
    intro made L F n sp e1 rd mk x y hmd hm hR hse hD hml hfin
    have hn6 := hR.le
    have hn1 : L.length = n := hR.1
    refine z_iload_n (q := 13) C 2 rfl rfl dX2_close_12 rfl ?_
    refine z_sipush (q := 16) C k_sipush_600 dX2_close_13 rfl ?_
    refine z_icmp_gt_n (q := 19) (tgt := 127) C (by omega) (by omega) dX2_close_16 (by decide) rfl (fun c16 => ?_) (fun c16 => ?_)
    · skip
      exact absurd c16 (by omega)
    · skip
      refine z_aload_n (q := 20) C 0 rfl rfl dX2_close_19 rfl ?_
      refine z_iload_n (q := 21) C 2 rfl rfl dX2_close_20 rfl ?_
      refine z_iconst (q := 22) C k_iconst_1 dX2_close_21 rfl ?_
      refine z_iadd (q := 23) C dX2_close_22 rfl ?_
      refine z_eqi (y := nI (made + 1)) (nI_add made 1) ?_
      refine z_put (q := 26) (ws' := [(hr, .inr (2, [.ref ht, .ref h, .int (nI sp), .int e1, .int (nI (made + 1)), .int mk, .int x, .int y])), (ht, .inr (4, [.ref ta, .int (nI nl)])), (ta, .inl (X.cI, 40, .inl tf)), (h, .inr (3, [.ref (a 0), .ref (a 1), .ref (a 2), .ref (a 3), .ref (a 4), .ref (a 5), .ref (a 6), .ref (a 7), .ref (a 8), .int (nI n), .int (zb false), .int am])), (a 0, .inl (X.cI, 600, .inl (F 0))), (a 1, .inl (X.cI, 600, .inl (F 1))), (a 2, .inl (X.cI, 600, .inl (F 2))), (a 3, .inl (X.cI, 600, .inl (F 3))), (a 4, .inl (X.cI, 600, .inl (F 4))), (a 5, .inl (X.cI, 600, .inl (F 5))), (a 6, .inl (X.cI, 600, .inl (F 6))), (a 7, .inl (X.cI, 1024, .inl (F 7))), (a 8, .inl (X.cZ, 600, .inl (F 8)))]) C hiX2 tyX2_ok nmX2 0 4 rfl rfl (by decide) hf18 rfl rfl rfl (Nat.le_of_ble_eq_true rfl) dX2_close_23 rfl rfl ?_
      refine z_aload_n (q := 27) C 0 rfl rfl dX2_close_26 rfl ?_
      refine z_aload_n (q := 28) C 0 rfl rfl dX2_close_27 rfl ?_
      refine z_get (q := 31) (v := .ref h) C hiX2 0 1 rfl rfl (by decide) hf34 rfl dX2_close_28 rfl ?_
      refine z_callV (q := 34) (n := 0) (As := []) (rest := [.ref hr]) (wr := [(hr, .inr (2, [.ref ht, .ref h, .int (nI sp), .int e1, .int (nI (made + 1)), .int mk, .int x, .int y])), (ht, .inr (4, [.ref ta, .int (nI nl)])), (ta, .inl (X.cI, 40, .inl tf)), (a 0, .inl (X.cI, 600, .inl (F 0))), (a 1, .inl (X.cI, 600, .inl (F 1))), (a 2, .inl (X.cI, 600, .inl (F 2))), (a 3, .inl (X.cI, 600, .inl (F 3))), (a 4, .inl (X.cI, 600, .inl (F 4))), (a 5, .inl (X.cI, 600, .inl (F 5))), (a 6, .inl (X.cI, 600, .inl (F 6))), (a 7, .inl (X.cI, 1024, .inl (F 7))), (a 8, .inl (X.cZ, 600, .inl (F 8)))]) C (c_X3_size X.l X.D X.2.1 h a n false am) gX2_close_X3_size rfl rfl rfl (by decide +kernel) (by decide) ⟨by first | decide | omega, by first | decide | omega⟩ 0 3 rfl rfl [3] [0, 1, 2, 4, 5, 6, 7, 8, 9, 10, 11, 12] rfl rfl (by decide) (by decide) (by decide) rfl rfl (Nat.le_of_ble_eq_true rfl) dX2_close_31 rfl (fun v w1 hp => ?_)
      obtain ⟨rfl, rfl⟩ := hp
      show zW X 4 [(hr, .inr (2, [.ref ht, .ref h, .int (nI sp), .int e1, .int (nI (made + 1)), .int mk, .int x, .int y])), (ht, .inr (4, [.ref ta, .int (nI nl)])), (ta, .inl (X.cI, 40, .inl tf)), (a 0, .inl (X.cI, 600, .inl (F 0))), (a 1, .inl (X.cI, 600, .inl (F 1))), (a 2, .inl (X.cI, 600, .inl (F 2))), (a 3, .inl (X.cI, 600, .inl (F 3))), (a 4, .inl (X.cI, 600, .inl (F 4))), (a 5, .inl (X.cI, 600, .inl (F 5))), (a 6, .inl (X.cI, 600, .inl (F 6))), (a 7, .inl (X.cI, 1024, .inl (F 7))), (a 8, .inl (X.cZ, 600, .inl (F 8))), (h, .inr (3, [.ref (a 0), .ref (a 1), .ref (a 2), .ref (a 3), .ref (a 4), .ref (a 5), .ref (a 6), .ref (a 7), .ref (a 8), .int (nI n), .int (zb false), .int am]))] _ _ 34 _ [.int (nI n), .ref hr]
      refine z_put (q := 37) (ws' := [(hr, .inr (2, [.ref ht, .ref h, .int (nI sp), .int (nI n), .int (nI (made + 1)), .int mk, .int x, .int y])), (ht, .inr (4, [.ref ta, .int (nI nl)])), (ta, .inl (X.cI, 40, .inl tf)), (a 0, .inl (X.cI, 600, .inl (F 0))), (a 1, .inl (X.cI, 600, .inl (F 1))), (a 2, .inl (X.cI, 600, .inl (F 2))), (a 3, .inl (X.cI, 600, .inl (F 3))), (a 4, .inl (X.cI, 600, .inl (F 4))), (a 5, .inl (X.cI, 600, .inl (F 5))), (a 6, .inl (X.cI, 600, .inl (F 6))), (a 7, .inl (X.cI, 1024, .inl (F 7))), (a 8, .inl (X.cZ, 600, .inl (F 8))), (h, .inr (3, [.ref (a 0), .ref (a 1), .ref (a 2), .ref (a 3), .ref (a 4), .ref (a 5), .ref (a 6), .ref (a 7), .ref (a 8), .int (nI n), .int (zb false), .int am]))]) C hiX2 tyX2_ok nmX2 0 3 rfl rfl (by decide) hf15 rfl rfl rfl (Nat.le_of_ble_eq_true rfl) dX2_close_34 rfl rfl ?_
      refine z_iconst (q := 38) C k_iconst_0 dX2_close_37 rfl ?_
      refine z_istore_n (q := 39) (lv' := [(3, .int (nI 0)), (0, .ref hr), (1, .ref h), (2, .int (nI made))]) C rfl dX2_close_38 rfl (by decide) rfl ?_
      refine z_lv [1, 2, 3, 0] rfl ?_
      refine z_ws (ws' := [(hr, .inr (2, [.ref ht, .ref h, .int (nI sp), .int (nI n), .int (nI (made + 1)), .int mk, .int x, .int y])), (ht, .inr (4, [.ref ta, .int (nI nl)])), (ta, .inl (X.cI, 40, .inl tf)), (h, .inr (3, [.ref (a 0), .ref (a 1), .ref (a 2), .ref (a 3), .ref (a 4), .ref (a 5), .ref (a 6), .ref (a 7), .ref (a 8), .int (nI n), .int (zb false), .int am])), (a 0, .inl (X.cI, 600, .inl (F 0))), (a 1, .inl (X.cI, 600, .inl (F 1))), (a 2, .inl (X.cI, 600, .inl (F 2))), (a 3, .inl (X.cI, 600, .inl (F 3))), (a 4, .inl (X.cI, 600, .inl (F 4))), (a 5, .inl (X.cI, 600, .inl (F 5))), (a 6, .inl (X.cI, 600, .inl (F 6))), (a 7, .inl (X.cI, 1024, .inl (F 7))), (a 8, .inl (X.cZ, 600, .inl (F 8)))]) [0, 1, 2, 12, 3, 4, 5, 6, 7, 8, 9, 10, 11] (by decide) rfl ?_
      refine l_X2_close_r hr ht ta nl hnl tf h a am L1 made (by omega) L sp n hR.1 (by rw [← hR.1]; exact hse) (by omega) hD (fun F9 n9 ov9 mk x y hR9 => ?_) C E 15 0 F n false mk x y (by omega) (by omega) hR
      have hn96 := hR9.le
      refine z_aload_n (q := 86) C 0 rfl rfl dX2_close_85 rfl ?_
      refine z_get (q := 89) (v := .ref h) C hiX2 0 1 rfl rfl (by decide) hf34 rfl dX2_close_86 rfl ?_
      refine z_callV (q := 92) (n := 0) (As := []) (rest := []) (wr := [(hr, .inr (2, [.ref ht, .ref h, .int (nI sp), .int (nI n), .int (nI (made + 1)), .int mk, .int x, .int y])), (ht, .inr (4, [.ref ta, .int (nI nl)])), (ta, .inl (X.cI, 40, .inl tf)), (a 0, .inl (X.cI, 600, .inl (F9 0))), (a 1, .inl (X.cI, 600, .inl (F9 1))), (a 2, .inl (X.cI, 600, .inl (F9 2))), (a 3, .inl (X.cI, 600, .inl (F9 3))), (a 4, .inl (X.cI, 600, .inl (F9 4))), (a 5, .inl (X.cI, 600, .inl (F9 5))), (a 6, .inl (X.cI, 600, .inl (F9 6))), (a 7, .inl (X.cI, 1024, .inl (F9 7))), (a 8, .inl (X.cZ, 600, .inl (F9 8)))]) C (c_X3_isOverfull X.l X.D X.2.1 h a n9 ov9 am) gX2_close_X3_isOverfull rfl rfl rfl (by decide +kernel) (by decide) ⟨by first | decide | omega, by first | decide | omega⟩ 0 3 rfl rfl [3] [0, 1, 2, 4, 5, 6, 7, 8, 9, 10, 11, 12] rfl rfl (by decide) (by decide) (by decide) rfl rfl (Nat.le_of_ble_eq_true rfl) dX2_close_89 rfl (fun v w1 hp => ?_)
      obtain ⟨rfl, rfl⟩ := hp
      show zW X 4 [(hr, .inr (2, [.ref ht, .ref h, .int (nI sp), .int (nI n), .int (nI (made + 1)), .int mk, .int x, .int y])), (ht, .inr (4, [.ref ta, .int (nI nl)])), (ta, .inl (X.cI, 40, .inl tf)), (a 0, .inl (X.cI, 600, .inl (F9 0))), (a 1, .inl (X.cI, 600, .inl (F9 1))), (a 2, .inl (X.cI, 600, .inl (F9 2))), (a 3, .inl (X.cI, 600, .inl (F9 3))), (a 4, .inl (X.cI, 600, .inl (F9 4))), (a 5, .inl (X.cI, 600, .inl (F9 5))), (a 6, .inl (X.cI, 600, .inl (F9 6))), (a 7, .inl (X.cI, 1024, .inl (F9 7))), (a 8, .inl (X.cZ, 600, .inl (F9 8))), (h, .inr (3, [.ref (a 0), .ref (a 1), .ref (a 2), .ref (a 3), .ref (a 4), .ref (a 5), .ref (a 6), .ref (a 7), .ref (a 8), .int (nI n9), .int (zb ov9), .int am]))] _ _ 92 _ [.int (zb ov9)]
      refine z_if_eq_b (q := 95) (tgt := 97) C dX2_close_92 (by decide) rfl (fun c92 => ?_) (fun c92 => ?_)
      · skip
        refine z_aload_n (q := 98) C 0 rfl rfl dX2_close_97 rfl ?_
        refine z_get (q := 101) (v := .ref h) C hiX2 0 1 rfl rfl (by decide) hf34 rfl dX2_close_98 rfl ?_
        refine z_callV (q := 104) (n := 0) (As := []) (rest := []) (wr := [(hr, .inr (2, [.ref ht, .ref h, .int (nI sp), .int (nI n), .int (nI (made + 1)), .int mk, .int x, .int y])), (ht, .inr (4, [.ref ta, .int (nI nl)])), (ta, .inl (X.cI, 40, .inl tf)), (a 0, .inl (X.cI, 600, .inl (F9 0))), (a 1, .inl (X.cI, 600, .inl (F9 1))), (a 2, .inl (X.cI, 600, .inl (F9 2))), (a 3, .inl (X.cI, 600, .inl (F9 3))), (a 4, .inl (X.cI, 600, .inl (F9 4))), (a 5, .inl (X.cI, 600, .inl (F9 5))), (a 6, .inl (X.cI, 600, .inl (F9 6))), (a 7, .inl (X.cI, 1024, .inl (F9 7))), (a 8, .inl (X.cZ, 600, .inl (F9 8)))]) C (c_X3_size X.l X.D X.2.1 h a n9 ov9 am) gX2_close_X3_size rfl rfl rfl (by decide +kernel) (by decide) ⟨by first | decide | omega, by first | decide | omega⟩ 0 3 rfl rfl [12] [0, 1, 2, 3, 4, 5, 6, 7, 8, 9, 10, 11] rfl rfl (by decide) (by decide) (by decide) rfl rfl (Nat.le_of_ble_eq_true rfl) dX2_close_101 rfl (fun v w1 hp => ?_)
        obtain ⟨rfl, rfl⟩ := hp
        show zW X 4 [(hr, .inr (2, [.ref ht, .ref h, .int (nI sp), .int (nI n), .int (nI (made + 1)), .int mk, .int x, .int y])), (ht, .inr (4, [.ref ta, .int (nI nl)])), (ta, .inl (X.cI, 40, .inl tf)), (a 0, .inl (X.cI, 600, .inl (F9 0))), (a 1, .inl (X.cI, 600, .inl (F9 1))), (a 2, .inl (X.cI, 600, .inl (F9 2))), (a 3, .inl (X.cI, 600, .inl (F9 3))), (a 4, .inl (X.cI, 600, .inl (F9 4))), (a 5, .inl (X.cI, 600, .inl (F9 5))), (a 6, .inl (X.cI, 600, .inl (F9 6))), (a 7, .inl (X.cI, 1024, .inl (F9 7))), (a 8, .inl (X.cZ, 600, .inl (F9 8))), (h, .inr (3, [.ref (a 0), .ref (a 1), .ref (a 2), .ref (a 3), .ref (a 4), .ref (a 5), .ref (a 6), .ref (a 7), .ref (a 8), .int (nI n9), .int (zb ov9), .int am]))] _ _ 104 _ [.int (nI n9)]
        refine z_aload_n (q := 105) C 0 rfl rfl dX2_close_104 rfl ?_
        refine z_get (q := 108) (v := .int (nI n)) C hiX2 0 3 rfl rfl (by decide) hf15 rfl dX2_close_105 rfl ?_
        refine z_icmp_ne_n (q := 111) (tgt := 113) C (by omega) (by omega) dX2_close_108 (by decide) rfl (fun c108 => ?_) (fun c108 => ?_)
        · skip
          refine z_aload_n (q := 114) C 0 rfl rfl dX2_close_113 rfl ?_
          refine z_aload_n (q := 115) C 0 rfl rfl dX2_close_114 rfl ?_
          refine z_get (q := 118) (v := .int (nI n)) C hiX2 0 3 rfl rfl (by decide) hf15 rfl dX2_close_115 rfl ?_
          refine z_put (q := 121) (ws' := [(hr, .inr (2, [.ref ht, .ref h, .int (nI n), .int (nI n), .int (nI (made + 1)), .int mk, .int x, .int y])), (ht, .inr (4, [.ref ta, .int (nI nl)])), (ta, .inl (X.cI, 40, .inl tf)), (a 0, .inl (X.cI, 600, .inl (F9 0))), (a 1, .inl (X.cI, 600, .inl (F9 1))), (a 2, .inl (X.cI, 600, .inl (F9 2))), (a 3, .inl (X.cI, 600, .inl (F9 3))), (a 4, .inl (X.cI, 600, .inl (F9 4))), (a 5, .inl (X.cI, 600, .inl (F9 5))), (a 6, .inl (X.cI, 600, .inl (F9 6))), (a 7, .inl (X.cI, 1024, .inl (F9 7))), (a 8, .inl (X.cZ, 600, .inl (F9 8))), (h, .inr (3, [.ref (a 0), .ref (a 1), .ref (a 2), .ref (a 3), .ref (a 4), .ref (a 5), .ref (a 6), .ref (a 7), .ref (a 8), .int (nI n9), .int (zb ov9), .int am]))]) C hiX2 tyX2_ok nmX2 0 2 rfl rfl (by decide) hf9 rfl rfl rfl (Nat.le_of_ble_eq_true rfl) dX2_close_118 rfl rfl ?_
          refine z_iinc (q := 124) (v := nI (made + 1)) (lv' := [(2, .int (nI (made + 1))), (0, .ref hr), (1, .ref h)]) C 2 dX2_close_121 rfl rfl (k_inc1 made) (by decide) rfl ?_
          refine z_goto (tgt := 12) C dX2_close_124 (by decide) ?_
          refine z_lv [1, 2, 0] rfl ?_
          refine z_ws (ws' := [(hr, .inr (2, [.ref ht, .ref h, .int (nI n), .int (nI n), .int (nI (made + 1)), .int mk, .int x, .int y])), (ht, .inr (4, [.ref ta, .int (nI nl)])), (ta, .inl (X.cI, 40, .inl tf)), (h, .inr (3, [.ref (a 0), .ref (a 1), .ref (a 2), .ref (a 3), .ref (a 4), .ref (a 5), .ref (a 6), .ref (a 7), .ref (a 8), .int (nI n9), .int (zb ov9), .int am])), (a 0, .inl (X.cI, 600, .inl (F9 0))), (a 1, .inl (X.cI, 600, .inl (F9 1))), (a 2, .inl (X.cI, 600, .inl (F9 2))), (a 3, .inl (X.cI, 600, .inl (F9 3))), (a 4, .inl (X.cI, 600, .inl (F9 4))), (a 5, .inl (X.cI, 600, .inl (F9 5))), (a 6, .inl (X.cI, 600, .inl (F9 6))), (a 7, .inl (X.cI, 1024, .inl (F9 7))), (a 8, .inl (X.cZ, 600, .inl (F9 8)))]) [0, 1, 2, 12, 3, 4, 5, 6, 7, 8, 9, 10, 11] (by decide) rfl ?_
          obtain ⟨t9, ht9⟩ : ∃ t9, 601 - made = t9 + 1 := ⟨600 - made, by omega⟩
          rw [ht9] at hfin
          have hx : (roundN nl tf L (nI (made + 1)) 14).2 = false := by rw [hR9.2.2.1]; exact c92
          have hln : n ≤ n9 := by rw [← hR.1, ← hR9.1]; exact (roundN_mono (nl := nl) (f := tf) (L := L) (rd := nI (made + 1)) 0 14 (by omega)).len
          have hn9 := hR9.le
          rw [closeN_on hx (by rw [hR9.1, hR.1]; exact c108)] at hfin
          have hS9 : roundN nl tf L (nI (made + 1)) 14 = ((roundN nl tf L (nI (made + 1)) 14).1, false) := Prod.ext rfl hx
          have hL9 := hR9.1
          rw [c92] at hR9
          rw [hS9] at hR9
          rw [c92]
          exact ih (made + 1) (roundN nl tf L (nI (made + 1)) 14).1 F9 n9 n _ _ _ _ _ (by omega) (by omega) hR9 (by rw [hL9]; exact hln) (by rw [← hR.1]; exact round_done hx) (by rw [hL9]; omega) (by rw [← hfin, show 601 - (made + 1) = t9 by omega])
        · skip
          refine z_ws (ws' := [(hr, .inr (2, [.ref ht, .ref h, .int (nI sp), .int (nI n), .int (nI (made + 1)), .int mk, .int x, .int y])), (ht, .inr (4, [.ref ta, .int (nI nl)])), (ta, .inl (X.cI, 40, .inl tf)), (h, .inr (3, [.ref (a 0), .ref (a 1), .ref (a 2), .ref (a 3), .ref (a 4), .ref (a 5), .ref (a 6), .ref (a 7), .ref (a 8), .int (nI n9), .int (zb ov9), .int am])), (a 0, .inl (X.cI, 600, .inl (F9 0))), (a 1, .inl (X.cI, 600, .inl (F9 1))), (a 2, .inl (X.cI, 600, .inl (F9 2))), (a 3, .inl (X.cI, 600, .inl (F9 3))), (a 4, .inl (X.cI, 600, .inl (F9 4))), (a 5, .inl (X.cI, 600, .inl (F9 5))), (a 6, .inl (X.cI, 600, .inl (F9 6))), (a 7, .inl (X.cI, 1024, .inl (F9 7))), (a 8, .inl (X.cZ, 600, .inl (F9 8)))]) [0, 1, 2, 12, 3, 4, 5, 6, 7, 8, 9, 10, 11] (by decide) rfl ?_
          refine z_iload_n (q := 112) C 2 rfl rfl dX2_close_111 rfl ?_
          refine z_iret C E (by omega) (by omega) dX2_close_112 ?_
          obtain ⟨t9, ht9⟩ : ∃ t9, 601 - made = t9 + 1 := ⟨600 - made, by omega⟩
          rw [ht9] at hfin
          rw [closeN_end (by rw [hR9.2.2.1]; exact c92) (by rw [hR9.1, hR.1]; exact c108)] at hfin
          exact ⟨F9, n9, ov9, _, _, _, _, _, _, by rw [← hfin]; exact hR9, by rw [← hfin], rfl⟩
      · skip
        refine z_ws (ws' := [(hr, .inr (2, [.ref ht, .ref h, .int (nI sp), .int (nI n), .int (nI (made + 1)), .int mk, .int x, .int y])), (ht, .inr (4, [.ref ta, .int (nI nl)])), (ta, .inl (X.cI, 40, .inl tf)), (h, .inr (3, [.ref (a 0), .ref (a 1), .ref (a 2), .ref (a 3), .ref (a 4), .ref (a 5), .ref (a 6), .ref (a 7), .ref (a 8), .int (nI n9), .int (zb ov9), .int am])), (a 0, .inl (X.cI, 600, .inl (F9 0))), (a 1, .inl (X.cI, 600, .inl (F9 1))), (a 2, .inl (X.cI, 600, .inl (F9 2))), (a 3, .inl (X.cI, 600, .inl (F9 3))), (a 4, .inl (X.cI, 600, .inl (F9 4))), (a 5, .inl (X.cI, 600, .inl (F9 5))), (a 6, .inl (X.cI, 600, .inl (F9 6))), (a 7, .inl (X.cI, 1024, .inl (F9 7))), (a 8, .inl (X.cZ, 600, .inl (F9 8)))]) [0, 1, 2, 12, 3, 4, 5, 6, 7, 8, 9, 10, 11] (by decide) rfl ?_
        refine z_iconst (q := 96) C k_iconst_m1 dX2_close_95 rfl ?_
        refine z_iret C E (by omega) (by omega) dX2_close_96 ?_
        obtain ⟨t9, ht9⟩ : ∃ t9, 601 - made = t9 + 1 := ⟨600 - made, by omega⟩
        rw [ht9] at hfin
        rw [closeN_full (by rw [hR9.2.2.1]; exact c92)] at hfin
        exact ⟨F9, n9, ov9, _, _, _, _, _, _, by rw [← hfin]; exact hR9, by rw [← hfin], rfl⟩

set_option maxHeartbeats 4000000 in
set_option maxRecDepth 100000 in
theorem c_X2_close (l : Launch) (D : va_G) (g : ClassId × ClassId × ClassId) (hr ht h0 : Nat) (s1 e1 rd mk x y : Int32) (ta nl : Nat) (hnl : nl ≤ 40) (tf : Nat → Int32) (h : Nat) (a : Nat → Nat) (F : Nat → Nat → Int32) (n : Nat) (am : Int32) (L1 : List Row) (hR : rowsRep F n false (L1, false)) : zM l yX2_close wsX2_close ({ frames := 5, cells := 0, slots := 0, locals := 129 } : Room) D g [.ref hr, .ref h] [(hr, .inr (2, [.ref ht, .ref h0, .int s1, .int e1, .int rd, .int mk, .int x, .int y])), (ht, .inr (4, [.ref ta, .int (nI nl)])), (ta, .inl (g.1, 40, .inl tf)), (h, .inr (3, [.ref (a 0), .ref (a 1), .ref (a 2), .ref (a 3), .ref (a 4), .ref (a 5), .ref (a 6), .ref (a 7), .ref (a 8), .int (nI n), .int (zb false), .int am])), (a 0, .inl (g.1, 600, .inl (F 0))), (a 1, .inl (g.1, 600, .inl (F 1))), (a 2, .inl (g.1, 600, .inl (F 2))), (a 3, .inl (g.1, 600, .inl (F 3))), (a 4, .inl (g.1, 600, .inl (F 4))), (a 5, .inl (g.1, 600, .inl (F 5))), (a 6, .inl (g.1, 600, .inl (F 6))), (a 7, .inl (g.1, 1024, .inl (F 7))), (a 8, .inl (g.2.1, 600, .inl (F 8)))] 0 0 (fun v w1 => ∃ (F1 : Nat → Nat → Int32) (n1 : Nat) (o1 : Bool) (s1 e1 rd mk x y : Int32), rowsRep F1 n1 o1 (closeN nl tf 601 0 L1).1 ∧ v = some (.int (closeN nl tf 601 0 L1).2) ∧ w1 = [(hr, .inr (2, [.ref ht, .ref h, .int s1, .int e1, .int rd, .int mk, .int x, .int y])), (ht, .inr (4, [.ref ta, .int (nI nl)])), (ta, .inl (g.1, 40, .inl tf)), (h, .inr (3, [.ref (a 0), .ref (a 1), .ref (a 2), .ref (a 3), .ref (a 4), .ref (a 5), .ref (a 6), .ref (a 7), .ref (a 8), .int (nI n1), .int (zb o1), .int am])), (a 0, .inl (g.1, 600, .inl (F1 0))), (a 1, .inl (g.1, 600, .inl (F1 1))), (a 2, .inl (g.1, 600, .inl (F1 2))), (a 3, .inl (g.1, 600, .inl (F1 3))), (a 4, .inl (g.1, 600, .inl (F1 4))), (a 5, .inl (g.1, 600, .inl (F1 5))), (a 6, .inl (g.1, 600, .inl (F1 6))), (a 7, .inl (g.1, 1024, .inl (F1 7))), (a 8, .inl (g.2.1, 600, .inl (F1 8)))]) := by
  refine z_met (cc := cX2_close) (maxL := 4) (ret := (some .int)) (lv := [(0, .ref hr), (1, .ref h)]) (by decide) rfl (Nat.le_of_ble_eq_true rfl) rfl ?_
  intro X hXD hXg hXl hnm C E
  subst hXD hXg hXl
  have C : zC X cX2_close 4 RX2 wsX2_close ({ frames := 5, cells := 0, slots := 0, locals := 129 } : Room) := C
  have hiX2 : ∀ w ∈ u_ws RX2 TX2 8, w ∈ wsX2_close := by decide +kernel
  have hf9 : Cond.fieldLink RX2 9 "RdfsRules$Reasoner" "spent" "I" ∈ wsX2_close := by decide +kernel
  have hf34 : Cond.fieldLink RX2 34 "RdfsRules$Reasoner" "rows" "LRdfsRules$Rows;" ∈ wsX2_close := by decide +kernel
  have hn6 := hR.le
  refine z_aload_n (q := 1) C 0 rfl rfl dX2_close_0 rfl ?_
  refine z_aload_n (q := 2) C 1 rfl rfl dX2_close_1 rfl ?_
  refine z_put (q := 5) (ws' := [(hr, .inr (2, [.ref ht, .ref h, .int s1, .int e1, .int rd, .int mk, .int x, .int y])), (ht, .inr (4, [.ref ta, .int (nI nl)])), (ta, .inl (X.cI, 40, .inl tf)), (h, .inr (3, [.ref (a 0), .ref (a 1), .ref (a 2), .ref (a 3), .ref (a 4), .ref (a 5), .ref (a 6), .ref (a 7), .ref (a 8), .int (nI n), .int (zb false), .int am])), (a 0, .inl (X.cI, 600, .inl (F 0))), (a 1, .inl (X.cI, 600, .inl (F 1))), (a 2, .inl (X.cI, 600, .inl (F 2))), (a 3, .inl (X.cI, 600, .inl (F 3))), (a 4, .inl (X.cI, 600, .inl (F 4))), (a 5, .inl (X.cI, 600, .inl (F 5))), (a 6, .inl (X.cI, 600, .inl (F 6))), (a 7, .inl (X.cI, 1024, .inl (F 7))), (a 8, .inl (X.cZ, 600, .inl (F 8)))]) C hiX2 tyX2_ok nmX2 0 1 rfl rfl (by decide) hf34 rfl rfl rfl (Nat.le_of_ble_eq_true rfl) dX2_close_2 rfl rfl ?_
  refine z_aload_n (q := 6) C 0 rfl rfl dX2_close_5 rfl ?_
  refine z_iconst (q := 7) C k_iconst_0 dX2_close_6 rfl ?_
  refine z_put (q := 10) (ws' := [(hr, .inr (2, [.ref ht, .ref h, .int (nI 0), .int e1, .int rd, .int mk, .int x, .int y])), (ht, .inr (4, [.ref ta, .int (nI nl)])), (ta, .inl (X.cI, 40, .inl tf)), (h, .inr (3, [.ref (a 0), .ref (a 1), .ref (a 2), .ref (a 3), .ref (a 4), .ref (a 5), .ref (a 6), .ref (a 7), .ref (a 8), .int (nI n), .int (zb false), .int am])), (a 0, .inl (X.cI, 600, .inl (F 0))), (a 1, .inl (X.cI, 600, .inl (F 1))), (a 2, .inl (X.cI, 600, .inl (F 2))), (a 3, .inl (X.cI, 600, .inl (F 3))), (a 4, .inl (X.cI, 600, .inl (F 4))), (a 5, .inl (X.cI, 600, .inl (F 5))), (a 6, .inl (X.cI, 600, .inl (F 6))), (a 7, .inl (X.cI, 1024, .inl (F 7))), (a 8, .inl (X.cZ, 600, .inl (F 8)))]) C hiX2 tyX2_ok nmX2 0 2 rfl rfl (by decide) hf9 rfl rfl rfl (Nat.le_of_ble_eq_true rfl) dX2_close_7 rfl rfl ?_
  refine z_iconst (q := 11) C k_iconst_0 dX2_close_10 rfl ?_
  refine z_istore_n (q := 12) (lv' := [(2, .int (nI 0)), (0, .ref hr), (1, .ref h)]) C rfl dX2_close_11 rfl (by decide) rfl ?_
  refine z_lv [1, 2, 0] rfl ?_
  exact l_X2_close hr ht ta nl hnl tf h a am L1 C E 602 0 L1 F n 0 e1 rd mk x y (by omega) (by omega) hR (by omega) ⟨fun _ i _ hi => absurd hi (Nat.not_lt_zero i), fun _ i _ _ hi => absurd hi (Nat.not_lt_zero i)⟩ (by omega) rfl
