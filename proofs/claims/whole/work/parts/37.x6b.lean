theorem mgRep.add {fa : Nat → Int32} {k : Nat} {GL : List Row} (h : mgRep fa k GL) (hk : k < 80) (s p o : Int32) : mgRep (upd (upd (upd fa (3 * k) s) (3 * k + 1) p) (3 * k + 2) o) (k + 1) (GL ++ [gRow s p o]) := by
  obtain ⟨h1, h2, h3⟩ := h
  refine ⟨by simp [h1], by omega, fun i j hi hj => ?_⟩
  rcases Nat.lt_succ_iff_lt_or_eq.mp hi with hi | rfl
  · rw [getD_app1 (by omega), ← h3 i j hi hj, pk_un (by omega), pk_un (by omega), pk_un (by omega)]
  · rw [show (GL ++ [gRow s p o]).getD i r0 = gRow s p o from by rw [← h1]; exact getD_app2]
    match j, hj with
    | 0, _ => rw [pk_un (by omega), pk_un (by omega)]; exact pk_us
    | 1, _ => rw [pk_un (by omega)]; exact pk_us
    | 2, _ => exact pk_us
theorem mgRep.drop {fa g : Nat → Int32} {k p : Nat} {GL : List Row} (h : mgRep fa k GL) (hp : p < k) (h1 : ∀ q, g q = if 3 * p ≤ q ∧ q < 3 * (k - 1) then fa (q + 3) else fa q) : mgRep g (k - 1) (GL.eraseIdx p) := by
  obtain ⟨a1, a2, a3⟩ := h
  refine ⟨by rw [List.length_eraseIdx, if_pos (by omega), a1], by omega, fun i j hi hj => ?_⟩
  rw [h1]
  simp only [List.getD_eq_getElem?_getD, List.getElem?_eraseIdx]
  split
  · rename_i c
    rw [if_neg (by omega), ← List.getD_eq_getElem?_getD, show 3 * i + j + 3 = 3 * (i + 1) + j by omega]
    exact a3 (i + 1) j (by omega) hj
  · rename_i c
    rw [if_pos (by omega), ← List.getD_eq_getElem?_getD]
    exact a3 i j (by omega) hj

set_option maxHeartbeats 4000000 in
set_option maxRecDepth 100000 in
theorem c_X6_triple (l : Launch) (D : va_G) (g : ClassId × ClassId × ClassId) (hm : Nat) (e : Nat → Nat) (M : Nat → Nat → Int32) (cd : Int32) (mb ak : Bool) (cnt k nl n m md : Nat) (fu : Bool) (hnl : nl ≤ 40) (GL : List Row) (hG : mgRep (M 0) k GL) (s p o : Int32) : zM l yX6_triple wsX6_triple ({ frames := 2, cells := 0, slots := 0, locals := 44 } : Room) D g [.ref hm, .int s, .int p, .int o] [(hm, .inr (6, [.int cd, .int (zb mb), .int (zb ak), .int (nI cnt), .int (nI k), .ref (e 0), .int (nI nl), .ref (e 1), .int (nI n), .ref (e 2), .int (nI m), .int (nI md), .ref (e 3), .ref (e 4), .int (zb fu), .ref (e 5)])), (e 0, .inl (g.1, 240, .inl (M 0))), (e 1, .inl (g.1, 40, .inl (M 1))), (e 2, .inl (g.1, 4200, .inl (M 2))), (e 3, .inl (g.1, 4207, .inl (M 3))), (e 4, .inl (g.1, 2048, .inl (M 4))), (e 5, .inl (g.1, 600, .inl (M 5)))] 0 0 (fun v w1 => (∃ c, 0 < c ∧ cdTri nl GL s p o = c ∧ v = some (.int (nI 0)) ∧ w1 = [(hm, .inr (6, [.int (nI c), .int (zb mb), .int (zb ak), .int (nI cnt), .int (nI k), .ref (e 0), .int (nI nl), .ref (e 1), .int (nI n), .ref (e 2), .int (nI m), .int (nI md), .ref (e 3), .ref (e 4), .int (zb fu), .ref (e 5)])), (e 0, .inl (g.1, 240, .inl (M 0))), (e 1, .inl (g.1, 40, .inl (M 1))), (e 2, .inl (g.1, 4200, .inl (M 2))), (e 3, .inl (g.1, 4207, .inl (M 3))), (e 4, .inl (g.1, 2048, .inl (M 4))), (e 5, .inl (g.1, 600, .inl (M 5)))]) ∨ (cdTri nl GL s p o = 0 ∧ ∃ (f0 : Nat → Int32) (k1 : Nat), mgRep f0 k1 (triL GL s p o) ∧ v = some (.int (nI k1)) ∧ w1 = [(hm, .inr (6, [.int (nI 0), .int (zb mb), .int (zb ak), .int (nI cnt), .int (nI k1), .ref (e 0), .int (nI nl), .ref (e 1), .int (nI n), .ref (e 2), .int (nI m), .int (nI md), .ref (e 3), .ref (e 4), .int (zb fu), .ref (e 5)])), (e 0, .inl (g.1, 240, .inl f0)), (e 1, .inl (g.1, 40, .inl (M 1))), (e 2, .inl (g.1, 4200, .inl (M 2))), (e 3, .inl (g.1, 4207, .inl (M 3))), (e 4, .inl (g.1, 2048, .inl (M 4))), (e 5, .inl (g.1, 600, .inl (M 5)))])) := by
  refine z_met (cc := cX6_triple) (maxL := 5) (ret := (some .int)) (lv := [(0, .ref hm), (1, .int s), (2, .int p), (3, .int o)]) (by decide) rfl (Nat.le_of_ble_eq_true rfl) rfl ?_
  intro X hXD hXg hXl hnm C E
  subst hXD hXg hXl
  have C : zC X cX6_triple 5 RX6 wsX6_triple ({ frames := 2, cells := 0, slots := 0, locals := 44 } : Room) := C
  have hiX6 : ∀ w ∈ u_ws RX6 TX6 16, w ∈ wsX6_triple := by decide +kernel
  have hf13 : Cond.fieldLink RX6 13 "RdfsRulesModel" "facts" "[I" ∈ wsX6_triple := by decide +kernel
  have hf49 : Cond.fieldLink RX6 49 "RdfsRulesModel" "given" "I" ∈ wsX6_triple := by decide +kernel
  have hk8 := hG.le
  refine z_aload_n (q := 1) C 0 rfl rfl dX6_triple_0 rfl ?_
  refine z_iload_n (q := 2) C 1 rfl rfl dX6_triple_1 rfl ?_
  refine z_iload_n (q := 3) C 2 rfl rfl dX6_triple_2 rfl ?_
  refine z_iload_n (q := 4) C 3 rfl rfl dX6_triple_3 rfl ?_
  refine z_callV (q := 7) (n := 3) (As := [.int s, .int p, .int o]) (rest := []) (wr := [(e 1, .inl (X.cI, 40, .inl (M 1))), (e 2, .inl (X.cI, 4200, .inl (M 2))), (e 3, .inl (X.cI, 4207, .inl (M 3))), (e 4, .inl (X.cI, 2048, .inl (M 4))), (e 5, .inl (X.cI, 600, .inl (M 5)))]) C (c_X6_place X.l X.D X.2.1 hm e M cd mb ak cnt k nl n m md fu GL hG s p o) gX6_triple_X6_place rfl rfl rfl (by decide +kernel) (by decide) ⟨by first | decide | omega, by first | decide | omega⟩ 0 6 rfl rfl [0, 1] [2, 3, 4, 5, 6] rfl rfl (by decide) (by decide) (by decide) rfl rfl (Nat.le_of_ble_eq_true rfl) dX6_triple_4 rfl (fun v w1 hp => ?_)
  obtain ⟨i, hi, rfl, rfl⟩ := hp
  have hik : i ≤ k := by rcases hi with z | z; exact Nat.le_of_lt z.1; exact Nat.le_of_eq z.1
  show zW X 5 [(e 1, .inl (X.cI, 40, .inl (M 1))), (e 2, .inl (X.cI, 4200, .inl (M 2))), (e 3, .inl (X.cI, 4207, .inl (M 3))), (e 4, .inl (X.cI, 2048, .inl (M 4))), (e 5, .inl (X.cI, 600, .inl (M 5))), (hm, .inr (6, [.int cd, .int (zb mb), .int (zb ak), .int (nI cnt), .int (nI k), .ref (e 0), .int (nI nl), .ref (e 1), .int (nI n), .ref (e 2), .int (nI m), .int (nI md), .ref (e 3), .ref (e 4), .int (zb fu), .ref (e 5)])), (e 0, .inl (X.cI, 240, .inl (M 0)))] _ _ 7 _ [.int (nI i)]
  refine z_ws (ws' := [(hm, .inr (6, [.int cd, .int (zb mb), .int (zb ak), .int (nI cnt), .int (nI k), .ref (e 0), .int (nI nl), .ref (e 1), .int (nI n), .ref (e 2), .int (nI m), .int (nI md), .ref (e 3), .ref (e 4), .int (zb fu), .ref (e 5)])), (e 0, .inl (X.cI, 240, .inl (M 0))), (e 1, .inl (X.cI, 40, .inl (M 1))), (e 2, .inl (X.cI, 4200, .inl (M 2))), (e 3, .inl (X.cI, 4207, .inl (M 3))), (e 4, .inl (X.cI, 2048, .inl (M 4))), (e 5, .inl (X.cI, 600, .inl (M 5)))]) [5, 6, 0, 1, 2, 3, 4] (by decide) rfl ?_
  refine z_aload_n (q := 8) C 0 rfl rfl dX6_triple_7 rfl ?_
  refine z_get (q := 11) (v := .int (nI k)) C hiX6 0 4 rfl rfl (by decide) hf49 rfl dX6_triple_8 rfl ?_
  refine z_icmp_ge_n (q := 14) (tgt := 18) C (by omega) (by omega) dX6_triple_11 (by decide) rfl (fun c11 => ?_) (fun c11 => ?_)
  · skip
    have hh : hasF GL s p o = false := by rcases hi with z | z; exact absurd z.1 (by omega); exact z.2
    refine z_iconst (q := 19) C k_iconst_0 dX6_triple_18 rfl ?_
    refine z_istore (q := 21) (lv' := [(4, .int (nI 0)), (0, .ref hm), (1, .int s), (2, .int p), (3, .int o)]) C dX6_triple_19 rfl (by decide) rfl ?_
    refine z_aload_n (q := 22) C 1 rfl rfl dX6_triple_21 rfl ?_
    refine z_aload_n (q := 23) C 1 rfl rfl dX6_triple_22 rfl ?_
    refine z_iload_n (q := 24) C 2 rfl rfl dX6_triple_23 rfl ?_
    refine z_iload_n (q := 25) C 3 rfl rfl dX6_triple_24 rfl ?_
    refine z_iload_n (q := 26) C 4 rfl rfl dX6_triple_25 rfl ?_
    refine z_callV (q := 29) (n := 3) (As := [.int s, .int p, .int o]) (rest := [.ref hm]) (wr := [(e 0, .inl (X.cI, 240, .inl (M 0))), (e 1, .inl (X.cI, 40, .inl (M 1))), (e 2, .inl (X.cI, 4200, .inl (M 2))), (e 3, .inl (X.cI, 4207, .inl (M 3))), (e 4, .inl (X.cI, 2048, .inl (M 4))), (e 5, .inl (X.cI, 600, .inl (M 5)))]) C (c_X6_isFact X.l X.D X.2.1 hm e M cd mb ak cnt k nl n m md fu hnl s p o) gX6_triple_X6_isFact rfl rfl rfl (by decide +kernel) (by decide) ⟨by first | decide | omega, by first | decide | omega⟩ 0 6 rfl rfl [0] [1, 2, 3, 4, 5, 6] rfl rfl (by decide) (by decide) (by decide) rfl rfl (Nat.le_of_ble_eq_true rfl) dX6_triple_26 rfl (fun v w1 hp => ?_)
    obtain ⟨rfl, rfl⟩ := hp
    show zW X 5 [(e 0, .inl (X.cI, 240, .inl (M 0))), (e 1, .inl (X.cI, 40, .inl (M 1))), (e 2, .inl (X.cI, 4200, .inl (M 2))), (e 3, .inl (X.cI, 4207, .inl (M 3))), (e 4, .inl (X.cI, 2048, .inl (M 4))), (e 5, .inl (X.cI, 600, .inl (M 5))), (hm, .inr (6, [.int cd, .int (zb mb), .int (zb ak), .int (nI cnt), .int (nI k), .ref (e 0), .int (nI nl), .ref (e 1), .int (nI n), .ref (e 2), .int (nI m), .int (nI md), .ref (e 3), .ref (e 4), .int (zb fu), .ref (e 5)]))] _ _ 29 _ [.int (zb (factB nl s p o)), .ref hm]
    refine z_ws (ws' := [(hm, .inr (6, [.int cd, .int (zb mb), .int (zb ak), .int (nI cnt), .int (nI k), .ref (e 0), .int (nI nl), .ref (e 1), .int (nI n), .ref (e 2), .int (nI m), .int (nI md), .ref (e 3), .ref (e 4), .int (zb fu), .ref (e 5)])), (e 0, .inl (X.cI, 240, .inl (M 0))), (e 1, .inl (X.cI, 40, .inl (M 1))), (e 2, .inl (X.cI, 4200, .inl (M 2))), (e 3, .inl (X.cI, 4207, .inl (M 3))), (e 4, .inl (X.cI, 2048, .inl (M 4))), (e 5, .inl (X.cI, 600, .inl (M 5)))]) [6, 0, 1, 2, 3, 4, 5] (by decide) rfl ?_
    refine z_if_ne_b (q := 32) (tgt := 36) C dX6_triple_29 (by decide) rfl (fun c29 => ?_) (fun c29 => ?_)
    · skip
      refine z_iload (q := 38) C 0 rfl dX6_triple_36 rfl ?_
      refine z_if_ne_n (q := 41) (tgt := 54) C (by omega) dX6_triple_38 (by decide) rfl (fun c38 => ?_) (fun c38 => ?_)
      · exact absurd c38 (by decide)
      · skip
        refine z_aload_n (q := 42) C 1 rfl rfl dX6_triple_41 rfl ?_
        refine z_get (q := 45) (v := .int (nI k)) C hiX6 0 4 rfl rfl (by decide) hf49 rfl dX6_triple_42 rfl ?_
        refine z_bipush (q := 47) C k_bipush_80 dX6_triple_45 rfl ?_
        refine z_icmp_ne_n (q := 50) (tgt := 54) C (by omega) (by omega) dX6_triple_47 (by decide) rfl (fun c47 => ?_) (fun c47 => ?_)
        · skip
          refine z_iconst (q := 55) C k_iconst_0 dX6_triple_54 rfl ?_
          refine z_callV (q := 58) (n := 1) (As := [.int (nI 0)]) (rest := []) (wr := [(e 0, .inl (X.cI, 240, .inl (M 0))), (e 1, .inl (X.cI, 40, .inl (M 1))), (e 2, .inl (X.cI, 4200, .inl (M 2))), (e 3, .inl (X.cI, 4207, .inl (M 3))), (e 4, .inl (X.cI, 2048, .inl (M 4))), (e 5, .inl (X.cI, 600, .inl (M 5)))]) C (c_X6_refuses X.l X.D X.2.1 hm e M cd mb ak cnt k nl n m md fu 0 (by omega)) gX6_triple_X6_refuses rfl rfl rfl (by decide +kernel) (by decide) ⟨by first | decide | omega, by first | decide | omega⟩ 0 6 rfl rfl [0] [1, 2, 3, 4, 5, 6] rfl rfl (by decide) (by decide) (by decide) rfl rfl (Nat.le_of_ble_eq_true rfl) dX6_triple_55 rfl (fun v w1 hp => ?_)
          obtain ⟨rfl, rfl⟩ := hp
          show zW X 5 [(e 0, .inl (X.cI, 240, .inl (M 0))), (e 1, .inl (X.cI, 40, .inl (M 1))), (e 2, .inl (X.cI, 4200, .inl (M 2))), (e 3, .inl (X.cI, 4207, .inl (M 3))), (e 4, .inl (X.cI, 2048, .inl (M 4))), (e 5, .inl (X.cI, 600, .inl (M 5))), (hm, .inr (6, [.int (nI 0), .int (zb mb), .int (zb ak), .int (nI cnt), .int (nI k), .ref (e 0), .int (nI nl), .ref (e 1), .int (nI n), .ref (e 2), .int (nI m), .int (nI md), .ref (e 3), .ref (e 4), .int (zb fu), .ref (e 5)]))] _ _ 58 _ [.int (zb (decide (0 < 0)))]
          refine z_ws (ws' := [(hm, .inr (6, [.int (nI 0), .int (zb mb), .int (zb ak), .int (nI cnt), .int (nI k), .ref (e 0), .int (nI nl), .ref (e 1), .int (nI n), .ref (e 2), .int (nI m), .int (nI md), .ref (e 3), .ref (e 4), .int (zb fu), .ref (e 5)])), (e 0, .inl (X.cI, 240, .inl (M 0))), (e 1, .inl (X.cI, 40, .inl (M 1))), (e 2, .inl (X.cI, 4200, .inl (M 2))), (e 3, .inl (X.cI, 4207, .inl (M 3))), (e 4, .inl (X.cI, 2048, .inl (M 4))), (e 5, .inl (X.cI, 600, .inl (M 5)))]) [6, 0, 1, 2, 3, 4, 5] (by decide) rfl ?_
          refine z_if_eq_b (q := 61) (tgt := 63) C dX6_triple_58 (by decide) rfl (fun c58 => ?_) (fun c58 => ?_)
          · skip
            refine z_iload (q := 65) C 0 rfl dX6_triple_63 rfl ?_
            refine z_if_ne_n (q := 68) (tgt := 118) C (by omega) dX6_triple_65 (by decide) rfl (fun c65 => ?_) (fun c65 => ?_)
            · exact absurd c65 (by decide)
            · skip
              refine z_aload_n (q := 69) C 1 rfl rfl dX6_triple_68 rfl ?_
              refine z_get (q := 72) (v := .ref (e 0)) C hiX6 0 5 rfl rfl (by decide) hf13 rfl dX6_triple_69 rfl ?_
              refine z_iconst (q := 73) C k_iconst_3 dX6_triple_72 rfl ?_
              refine z_aload_n (q := 74) C 1 rfl rfl dX6_triple_73 rfl ?_
              refine z_get (q := 77) (v := .int (nI k)) C hiX6 0 4 rfl rfl (by decide) hf49 rfl dX6_triple_74 rfl ?_
              refine z_imul (q := 78) C dX6_triple_77 rfl ?_
              refine z_eqi (y := nI (3 * k)) (pk_mul 3 k) ?_
              refine z_iload_n (q := 79) C 2 rfl rfl dX6_triple_78 rfl ?_
              refine z_iast (q := 80) (ws' := [(hm, .inr (6, [.int (nI 0), .int (zb mb), .int (zb ak), .int (nI cnt), .int (nI k), .ref (e 0), .int (nI nl), .ref (e 1), .int (nI n), .ref (e 2), .int (nI m), .int (nI md), .ref (e 3), .ref (e 4), .int (zb fu), .ref (e 5)])), (e 0, .inl (X.cI, 240, .inl (upd (M 0) (3 * k) s))), (e 1, .inl (X.cI, 40, .inl (M 1))), (e 2, .inl (X.cI, 4200, .inl (M 2))), (e 3, .inl (X.cI, 4207, .inl (M 3))), (e 4, .inl (X.cI, 2048, .inl (M 4))), (e 5, .inl (X.cI, 600, .inl (M 5)))]) C 1 rfl (i := 3 * k) (by omega) (by decide) dX6_triple_79 rfl rfl ?_
              refine z_aload_n (q := 81) C 1 rfl rfl dX6_triple_80 rfl ?_
              refine z_get (q := 84) (v := .ref (e 0)) C hiX6 0 5 rfl rfl (by decide) hf13 rfl dX6_triple_81 rfl ?_
              refine z_iconst (q := 85) C k_iconst_3 dX6_triple_84 rfl ?_
              refine z_aload_n (q := 86) C 1 rfl rfl dX6_triple_85 rfl ?_
              refine z_get (q := 89) (v := .int (nI k)) C hiX6 0 4 rfl rfl (by decide) hf49 rfl dX6_triple_86 rfl ?_
              refine z_imul (q := 90) C dX6_triple_89 rfl ?_
              refine z_eqi (y := nI (3 * k)) (pk_mul 3 k) ?_
              refine z_iconst (q := 91) C k_iconst_1 dX6_triple_90 rfl ?_
              refine z_iadd (q := 92) C dX6_triple_91 rfl ?_
              refine z_eqi (y := nI ((3 * k) + 1)) (nI_add (3 * k) 1) ?_
              refine z_iload_n (q := 93) C 3 rfl rfl dX6_triple_92 rfl ?_
              refine z_iast (q := 94) (ws' := [(hm, .inr (6, [.int (nI 0), .int (zb mb), .int (zb ak), .int (nI cnt), .int (nI k), .ref (e 0), .int (nI nl), .ref (e 1), .int (nI n), .ref (e 2), .int (nI m), .int (nI md), .ref (e 3), .ref (e 4), .int (zb fu), .ref (e 5)])), (e 0, .inl (X.cI, 240, .inl (upd (upd (M 0) (3 * k) s) ((3 * k) + 1) p))), (e 1, .inl (X.cI, 40, .inl (M 1))), (e 2, .inl (X.cI, 4200, .inl (M 2))), (e 3, .inl (X.cI, 4207, .inl (M 3))), (e 4, .inl (X.cI, 2048, .inl (M 4))), (e 5, .inl (X.cI, 600, .inl (M 5)))]) C 1 rfl (i := (3 * k) + 1) (by omega) (by decide) dX6_triple_93 rfl rfl ?_
              refine z_aload_n (q := 95) C 1 rfl rfl dX6_triple_94 rfl ?_
              refine z_get (q := 98) (v := .ref (e 0)) C hiX6 0 5 rfl rfl (by decide) hf13 rfl dX6_triple_95 rfl ?_
              refine z_iconst (q := 99) C k_iconst_3 dX6_triple_98 rfl ?_
              refine z_aload_n (q := 100) C 1 rfl rfl dX6_triple_99 rfl ?_
              refine z_get (q := 103) (v := .int (nI k)) C hiX6 0 4 rfl rfl (by decide) hf49 rfl dX6_triple_100 rfl ?_
              refine z_imul (q := 104) C dX6_triple_103 rfl ?_
              refine z_eqi (y := nI (3 * k)) (pk_mul 3 k) ?_
              refine z_iconst (q := 105) C k_iconst_2 dX6_triple_104 rfl ?_
              refine z_iadd (q := 106) C dX6_triple_105 rfl ?_
              refine z_eqi (y := nI ((3 * k) + 2)) (nI_add (3 * k) 2) ?_
              refine z_iload_n (q := 107) C 4 rfl rfl dX6_triple_106 rfl ?_
              refine z_iast (q := 108) (ws' := [(hm, .inr (6, [.int (nI 0), .int (zb mb), .int (zb ak), .int (nI cnt), .int (nI k), .ref (e 0), .int (nI nl), .ref (e 1), .int (nI n), .ref (e 2), .int (nI m), .int (nI md), .ref (e 3), .ref (e 4), .int (zb fu), .ref (e 5)])), (e 0, .inl (X.cI, 240, .inl (upd (upd (upd (M 0) (3 * k) s) ((3 * k) + 1) p) ((3 * k) + 2) o))), (e 1, .inl (X.cI, 40, .inl (M 1))), (e 2, .inl (X.cI, 4200, .inl (M 2))), (e 3, .inl (X.cI, 4207, .inl (M 3))), (e 4, .inl (X.cI, 2048, .inl (M 4))), (e 5, .inl (X.cI, 600, .inl (M 5)))]) C 1 rfl (i := (3 * k) + 2) (by omega) (by decide) dX6_triple_107 rfl rfl ?_
              refine z_aload_n (q := 109) C 1 rfl rfl dX6_triple_108 rfl ?_
              refine z_dup (q := 110) C rfl dX6_triple_109 rfl ?_
              refine z_get (q := 113) (v := .int (nI k)) C hiX6 0 4 rfl rfl (by decide) hf49 rfl dX6_triple_110 rfl ?_
              refine z_iconst (q := 114) C k_iconst_1 dX6_triple_113 rfl ?_
              refine z_iadd (q := 115) C dX6_triple_114 rfl ?_
              refine z_eqi (y := nI (k + 1)) (nI_add k 1) ?_
              refine z_put (q := 118) (ws' := [(hm, .inr (6, [.int (nI 0), .int (zb mb), .int (zb ak), .int (nI cnt), .int (nI (k + 1)), .ref (e 0), .int (nI nl), .ref (e 1), .int (nI n), .ref (e 2), .int (nI m), .int (nI md), .ref (e 3), .ref (e 4), .int (zb fu), .ref (e 5)])), (e 0, .inl (X.cI, 240, .inl (upd (upd (upd (M 0) (3 * k) s) ((3 * k) + 1) p) ((3 * k) + 2) o))), (e 1, .inl (X.cI, 40, .inl (M 1))), (e 2, .inl (X.cI, 4200, .inl (M 2))), (e 3, .inl (X.cI, 4207, .inl (M 3))), (e 4, .inl (X.cI, 2048, .inl (M 4))), (e 5, .inl (X.cI, 600, .inl (M 5)))]) C hiX6 tyX6_ok nmX6 0 4 rfl rfl (by decide) hf49 rfl rfl rfl (Nat.le_of_ble_eq_true rfl) dX6_triple_115 rfl rfl ?_
              refine z_aload_n (q := 119) C 1 rfl rfl dX6_triple_118 rfl ?_
              refine z_get (q := 122) (v := .int (nI (k + 1))) C hiX6 0 4 rfl rfl (by decide) hf49 rfl dX6_triple_119 rfl ?_
              refine z_iret C E (by omega) (by omega) dX6_triple_122 ?_
              exact Or.inr ⟨by unfold cdTri; rw [if_neg (by rw [c29]; decide), if_neg (fun z => by have := hG.1; omega)], _, k + 1, by rw [show triL GL s p o = GL ++ [gRow s p o] from if_neg (by rw [hh]; decide)]; exact hG.add (by omega) s p o, rfl, rfl⟩
          · skip
            exact absurd c58 (by decide)
        · skip
          refine z_iconst (q := 51) C k_iconst_2 dX6_triple_50 rfl ?_
          refine z_goto (tgt := 55) C dX6_triple_51 (by decide) ?_
          refine z_callV (q := 58) (n := 1) (As := [.int (nI 2)]) (rest := []) (wr := [(e 0, .inl (X.cI, 240, .inl (M 0))), (e 1, .inl (X.cI, 40, .inl (M 1))), (e 2, .inl (X.cI, 4200, .inl (M 2))), (e 3, .inl (X.cI, 4207, .inl (M 3))), (e 4, .inl (X.cI, 2048, .inl (M 4))), (e 5, .inl (X.cI, 600, .inl (M 5)))]) C (c_X6_refuses X.l X.D X.2.1 hm e M cd mb ak cnt k nl n m md fu 2 (by omega)) gX6_triple_X6_refuses rfl rfl rfl (by decide +kernel) (by decide) ⟨by first | decide | omega, by first | decide | omega⟩ 0 6 rfl rfl [0] [1, 2, 3, 4, 5, 6] rfl rfl (by decide) (by decide) (by decide) rfl rfl (Nat.le_of_ble_eq_true rfl) dX6_triple_55 rfl (fun v w1 hp => ?_)
          obtain ⟨rfl, rfl⟩ := hp
          show zW X 5 [(e 0, .inl (X.cI, 240, .inl (M 0))), (e 1, .inl (X.cI, 40, .inl (M 1))), (e 2, .inl (X.cI, 4200, .inl (M 2))), (e 3, .inl (X.cI, 4207, .inl (M 3))), (e 4, .inl (X.cI, 2048, .inl (M 4))), (e 5, .inl (X.cI, 600, .inl (M 5))), (hm, .inr (6, [.int (nI 2), .int (zb mb), .int (zb ak), .int (nI cnt), .int (nI k), .ref (e 0), .int (nI nl), .ref (e 1), .int (nI n), .ref (e 2), .int (nI m), .int (nI md), .ref (e 3), .ref (e 4), .int (zb fu), .ref (e 5)]))] _ _ 58 _ [.int (zb (decide (0 < 2)))]
          refine z_ws (ws' := [(hm, .inr (6, [.int (nI 2), .int (zb mb), .int (zb ak), .int (nI cnt), .int (nI k), .ref (e 0), .int (nI nl), .ref (e 1), .int (nI n), .ref (e 2), .int (nI m), .int (nI md), .ref (e 3), .ref (e 4), .int (zb fu), .ref (e 5)])), (e 0, .inl (X.cI, 240, .inl (M 0))), (e 1, .inl (X.cI, 40, .inl (M 1))), (e 2, .inl (X.cI, 4200, .inl (M 2))), (e 3, .inl (X.cI, 4207, .inl (M 3))), (e 4, .inl (X.cI, 2048, .inl (M 4))), (e 5, .inl (X.cI, 600, .inl (M 5)))]) [6, 0, 1, 2, 3, 4, 5] (by decide) rfl ?_
          refine z_if_eq_b (q := 61) (tgt := 63) C dX6_triple_58 (by decide) rfl (fun c58 => ?_) (fun c58 => ?_)
          · skip
            exact absurd c58 (by decide)
          · skip
            refine z_iconst (q := 62) C k_iconst_0 dX6_triple_61 rfl ?_
            refine z_iret C E (by omega) (by omega) dX6_triple_62 ?_
            exact Or.inl ⟨2, by omega, by unfold cdTri; rw [if_neg (by rw [c29]; decide), if_pos ⟨hh, by rw [hG.1]; omega⟩], rfl, rfl⟩
    · skip
      refine z_iconst (q := 33) C k_iconst_1 dX6_triple_32 rfl ?_
      refine z_goto (tgt := 55) C dX6_triple_33 (by decide) ?_
      refine z_callV (q := 58) (n := 1) (As := [.int (nI 1)]) (rest := []) (wr := [(e 0, .inl (X.cI, 240, .inl (M 0))), (e 1, .inl (X.cI, 40, .inl (M 1))), (e 2, .inl (X.cI, 4200, .inl (M 2))), (e 3, .inl (X.cI, 4207, .inl (M 3))), (e 4, .inl (X.cI, 2048, .inl (M 4))), (e 5, .inl (X.cI, 600, .inl (M 5)))]) C (c_X6_refuses X.l X.D X.2.1 hm e M cd mb ak cnt k nl n m md fu 1 (by omega)) gX6_triple_X6_refuses rfl rfl rfl (by decide +kernel) (by decide) ⟨by first | decide | omega, by first | decide | omega⟩ 0 6 rfl rfl [0] [1, 2, 3, 4, 5, 6] rfl rfl (by decide) (by decide) (by decide) rfl rfl (Nat.le_of_ble_eq_true rfl) dX6_triple_55 rfl (fun v w1 hp => ?_)
      obtain ⟨rfl, rfl⟩ := hp
      show zW X 5 [(e 0, .inl (X.cI, 240, .inl (M 0))), (e 1, .inl (X.cI, 40, .inl (M 1))), (e 2, .inl (X.cI, 4200, .inl (M 2))), (e 3, .inl (X.cI, 4207, .inl (M 3))), (e 4, .inl (X.cI, 2048, .inl (M 4))), (e 5, .inl (X.cI, 600, .inl (M 5))), (hm, .inr (6, [.int (nI 1), .int (zb mb), .int (zb ak), .int (nI cnt), .int (nI k), .ref (e 0), .int (nI nl), .ref (e 1), .int (nI n), .ref (e 2), .int (nI m), .int (nI md), .ref (e 3), .ref (e 4), .int (zb fu), .ref (e 5)]))] _ _ 58 _ [.int (zb (decide (0 < 1)))]
      refine z_ws (ws' := [(hm, .inr (6, [.int (nI 1), .int (zb mb), .int (zb ak), .int (nI cnt), .int (nI k), .ref (e 0), .int (nI nl), .ref (e 1), .int (nI n), .ref (e 2), .int (nI m), .int (nI md), .ref (e 3), .ref (e 4), .int (zb fu), .ref (e 5)])), (e 0, .inl (X.cI, 240, .inl (M 0))), (e 1, .inl (X.cI, 40, .inl (M 1))), (e 2, .inl (X.cI, 4200, .inl (M 2))), (e 3, .inl (X.cI, 4207, .inl (M 3))), (e 4, .inl (X.cI, 2048, .inl (M 4))), (e 5, .inl (X.cI, 600, .inl (M 5)))]) [6, 0, 1, 2, 3, 4, 5] (by decide) rfl ?_
      refine z_if_eq_b (q := 61) (tgt := 63) C dX6_triple_58 (by decide) rfl (fun c58 => ?_) (fun c58 => ?_)
      · skip
        exact absurd c58 (by decide)
      · skip
        refine z_iconst (q := 62) C k_iconst_0 dX6_triple_61 rfl ?_
        refine z_iret C E (by omega) (by omega) dX6_triple_62 ?_
        exact Or.inl ⟨1, by omega, if_pos c29, rfl, rfl⟩
  · skip
    have hh : hasF GL s p o = true := by rcases hi with z | z; exact z.2.1; exact absurd z.1 (by omega)
    refine z_iconst (q := 15) C k_iconst_1 dX6_triple_14 rfl ?_
    refine z_goto (tgt := 19) C dX6_triple_15 (by decide) ?_
    refine z_istore (q := 21) (lv' := [(4, .int (nI 1)), (0, .ref hm), (1, .int s), (2, .int p), (3, .int o)]) C dX6_triple_19 rfl (by decide) rfl ?_
    refine z_aload_n (q := 22) C 1 rfl rfl dX6_triple_21 rfl ?_
    refine z_aload_n (q := 23) C 1 rfl rfl dX6_triple_22 rfl ?_
    refine z_iload_n (q := 24) C 2 rfl rfl dX6_triple_23 rfl ?_
    refine z_iload_n (q := 25) C 3 rfl rfl dX6_triple_24 rfl ?_
    refine z_iload_n (q := 26) C 4 rfl rfl dX6_triple_25 rfl ?_
    refine z_callV (q := 29) (n := 3) (As := [.int s, .int p, .int o]) (rest := [.ref hm]) (wr := [(e 0, .inl (X.cI, 240, .inl (M 0))), (e 1, .inl (X.cI, 40, .inl (M 1))), (e 2, .inl (X.cI, 4200, .inl (M 2))), (e 3, .inl (X.cI, 4207, .inl (M 3))), (e 4, .inl (X.cI, 2048, .inl (M 4))), (e 5, .inl (X.cI, 600, .inl (M 5)))]) C (c_X6_isFact X.l X.D X.2.1 hm e M cd mb ak cnt k nl n m md fu hnl s p o) gX6_triple_X6_isFact rfl rfl rfl (by decide +kernel) (by decide) ⟨by first | decide | omega, by first | decide | omega⟩ 0 6 rfl rfl [0] [1, 2, 3, 4, 5, 6] rfl rfl (by decide) (by decide) (by decide) rfl rfl (Nat.le_of_ble_eq_true rfl) dX6_triple_26 rfl (fun v w1 hp => ?_)
    obtain ⟨rfl, rfl⟩ := hp
    show zW X 5 [(e 0, .inl (X.cI, 240, .inl (M 0))), (e 1, .inl (X.cI, 40, .inl (M 1))), (e 2, .inl (X.cI, 4200, .inl (M 2))), (e 3, .inl (X.cI, 4207, .inl (M 3))), (e 4, .inl (X.cI, 2048, .inl (M 4))), (e 5, .inl (X.cI, 600, .inl (M 5))), (hm, .inr (6, [.int cd, .int (zb mb), .int (zb ak), .int (nI cnt), .int (nI k), .ref (e 0), .int (nI nl), .ref (e 1), .int (nI n), .ref (e 2), .int (nI m), .int (nI md), .ref (e 3), .ref (e 4), .int (zb fu), .ref (e 5)]))] _ _ 29 _ [.int (zb (factB nl s p o)), .ref hm]
    refine z_ws (ws' := [(hm, .inr (6, [.int cd, .int (zb mb), .int (zb ak), .int (nI cnt), .int (nI k), .ref (e 0), .int (nI nl), .ref (e 1), .int (nI n), .ref (e 2), .int (nI m), .int (nI md), .ref (e 3), .ref (e 4), .int (zb fu), .ref (e 5)])), (e 0, .inl (X.cI, 240, .inl (M 0))), (e 1, .inl (X.cI, 40, .inl (M 1))), (e 2, .inl (X.cI, 4200, .inl (M 2))), (e 3, .inl (X.cI, 4207, .inl (M 3))), (e 4, .inl (X.cI, 2048, .inl (M 4))), (e 5, .inl (X.cI, 600, .inl (M 5)))]) [6, 0, 1, 2, 3, 4, 5] (by decide) rfl ?_
    refine z_if_ne_b (q := 32) (tgt := 36) C dX6_triple_29 (by decide) rfl (fun c29 => ?_) (fun c29 => ?_)
    · skip
      refine z_iload (q := 38) C 0 rfl dX6_triple_36 rfl ?_
      refine z_if_ne_n (q := 41) (tgt := 54) C (by omega) dX6_triple_38 (by decide) rfl (fun c38 => ?_) (fun c38 => ?_)
      · skip
        refine z_iconst (q := 55) C k_iconst_0 dX6_triple_54 rfl ?_
        refine z_callV (q := 58) (n := 1) (As := [.int (nI 0)]) (rest := []) (wr := [(e 0, .inl (X.cI, 240, .inl (M 0))), (e 1, .inl (X.cI, 40, .inl (M 1))), (e 2, .inl (X.cI, 4200, .inl (M 2))), (e 3, .inl (X.cI, 4207, .inl (M 3))), (e 4, .inl (X.cI, 2048, .inl (M 4))), (e 5, .inl (X.cI, 600, .inl (M 5)))]) C (c_X6_refuses X.l X.D X.2.1 hm e M cd mb ak cnt k nl n m md fu 0 (by omega)) gX6_triple_X6_refuses rfl rfl rfl (by decide +kernel) (by decide) ⟨by first | decide | omega, by first | decide | omega⟩ 0 6 rfl rfl [0] [1, 2, 3, 4, 5, 6] rfl rfl (by decide) (by decide) (by decide) rfl rfl (Nat.le_of_ble_eq_true rfl) dX6_triple_55 rfl (fun v w1 hp => ?_)
        obtain ⟨rfl, rfl⟩ := hp
        show zW X 5 [(e 0, .inl (X.cI, 240, .inl (M 0))), (e 1, .inl (X.cI, 40, .inl (M 1))), (e 2, .inl (X.cI, 4200, .inl (M 2))), (e 3, .inl (X.cI, 4207, .inl (M 3))), (e 4, .inl (X.cI, 2048, .inl (M 4))), (e 5, .inl (X.cI, 600, .inl (M 5))), (hm, .inr (6, [.int (nI 0), .int (zb mb), .int (zb ak), .int (nI cnt), .int (nI k), .ref (e 0), .int (nI nl), .ref (e 1), .int (nI n), .ref (e 2), .int (nI m), .int (nI md), .ref (e 3), .ref (e 4), .int (zb fu), .ref (e 5)]))] _ _ 58 _ [.int (zb (decide (0 < 0)))]
        refine z_ws (ws' := [(hm, .inr (6, [.int (nI 0), .int (zb mb), .int (zb ak), .int (nI cnt), .int (nI k), .ref (e 0), .int (nI nl), .ref (e 1), .int (nI n), .ref (e 2), .int (nI m), .int (nI md), .ref (e 3), .ref (e 4), .int (zb fu), .ref (e 5)])), (e 0, .inl (X.cI, 240, .inl (M 0))), (e 1, .inl (X.cI, 40, .inl (M 1))), (e 2, .inl (X.cI, 4200, .inl (M 2))), (e 3, .inl (X.cI, 4207, .inl (M 3))), (e 4, .inl (X.cI, 2048, .inl (M 4))), (e 5, .inl (X.cI, 600, .inl (M 5)))]) [6, 0, 1, 2, 3, 4, 5] (by decide) rfl ?_
        refine z_if_eq_b (q := 61) (tgt := 63) C dX6_triple_58 (by decide) rfl (fun c58 => ?_) (fun c58 => ?_)
        · skip
          refine z_iload (q := 65) C 0 rfl dX6_triple_63 rfl ?_
          refine z_if_ne_n (q := 68) (tgt := 118) C (by omega) dX6_triple_65 (by decide) rfl (fun c65 => ?_) (fun c65 => ?_)
          · skip
            refine z_aload_n (q := 119) C 1 rfl rfl dX6_triple_118 rfl ?_
            refine z_get (q := 122) (v := .int (nI k)) C hiX6 0 4 rfl rfl (by decide) hf49 rfl dX6_triple_119 rfl ?_
            refine z_iret C E (by omega) (by omega) dX6_triple_122 ?_
            exact Or.inr ⟨by unfold cdTri; rw [if_neg (by rw [c29]; decide), if_neg (by rw [hh]; exact fun z => absurd z.1 (by decide))], M 0, k, by rw [show triL GL s p o = GL from if_pos hh]; exact hG, rfl, rfl⟩
          · exact absurd c65 (by decide)
        · skip
          exact absurd c58 (by decide)
      · exact absurd c38 (by decide)
    · skip
      refine z_iconst (q := 33) C k_iconst_1 dX6_triple_32 rfl ?_
      refine z_goto (tgt := 55) C dX6_triple_33 (by decide) ?_
      refine z_callV (q := 58) (n := 1) (As := [.int (nI 1)]) (rest := []) (wr := [(e 0, .inl (X.cI, 240, .inl (M 0))), (e 1, .inl (X.cI, 40, .inl (M 1))), (e 2, .inl (X.cI, 4200, .inl (M 2))), (e 3, .inl (X.cI, 4207, .inl (M 3))), (e 4, .inl (X.cI, 2048, .inl (M 4))), (e 5, .inl (X.cI, 600, .inl (M 5)))]) C (c_X6_refuses X.l X.D X.2.1 hm e M cd mb ak cnt k nl n m md fu 1 (by omega)) gX6_triple_X6_refuses rfl rfl rfl (by decide +kernel) (by decide) ⟨by first | decide | omega, by first | decide | omega⟩ 0 6 rfl rfl [0] [1, 2, 3, 4, 5, 6] rfl rfl (by decide) (by decide) (by decide) rfl rfl (Nat.le_of_ble_eq_true rfl) dX6_triple_55 rfl (fun v w1 hp => ?_)
      obtain ⟨rfl, rfl⟩ := hp
      show zW X 5 [(e 0, .inl (X.cI, 240, .inl (M 0))), (e 1, .inl (X.cI, 40, .inl (M 1))), (e 2, .inl (X.cI, 4200, .inl (M 2))), (e 3, .inl (X.cI, 4207, .inl (M 3))), (e 4, .inl (X.cI, 2048, .inl (M 4))), (e 5, .inl (X.cI, 600, .inl (M 5))), (hm, .inr (6, [.int (nI 1), .int (zb mb), .int (zb ak), .int (nI cnt), .int (nI k), .ref (e 0), .int (nI nl), .ref (e 1), .int (nI n), .ref (e 2), .int (nI m), .int (nI md), .ref (e 3), .ref (e 4), .int (zb fu), .ref (e 5)]))] _ _ 58 _ [.int (zb (decide (0 < 1)))]
      refine z_ws (ws' := [(hm, .inr (6, [.int (nI 1), .int (zb mb), .int (zb ak), .int (nI cnt), .int (nI k), .ref (e 0), .int (nI nl), .ref (e 1), .int (nI n), .ref (e 2), .int (nI m), .int (nI md), .ref (e 3), .ref (e 4), .int (zb fu), .ref (e 5)])), (e 0, .inl (X.cI, 240, .inl (M 0))), (e 1, .inl (X.cI, 40, .inl (M 1))), (e 2, .inl (X.cI, 4200, .inl (M 2))), (e 3, .inl (X.cI, 4207, .inl (M 3))), (e 4, .inl (X.cI, 2048, .inl (M 4))), (e 5, .inl (X.cI, 600, .inl (M 5)))]) [6, 0, 1, 2, 3, 4, 5] (by decide) rfl ?_
      refine z_if_eq_b (q := 61) (tgt := 63) C dX6_triple_58 (by decide) rfl (fun c58 => ?_) (fun c58 => ?_)
      · skip
        exact absurd c58 (by decide)
      · skip
        refine z_iconst (q := 62) C k_iconst_0 dX6_triple_61 rfl ?_
        refine z_iret C E (by omega) (by omega) dX6_triple_62 ?_
        exact Or.inl ⟨1, by omega, if_pos c29, rfl, rfl⟩

def axLim (mb : Bool) (cnt : Nat) : Nat := 15 + (if mb = true then 3 * cnt else 0)
def axDec (i a : Nat) : Prop := nI (a / 10000) = axS i ∧ nI (a / 100 % 100) = axP i ∧ nI (a % 100) = axO i
theorem axDec0 {i : Nat} (h : 15 ≤ i) (h3 : (i - 15) % 3 = 0) : axDec i (10000 * (20 + (i - 15) / 3) + 11) := by
  refine ⟨?_, ?_, ?_⟩
  · rw [show axS i = _ from if_neg (by omega)]; congr 1; omega
  · rw [show axP i = _ from if_neg (by omega), h3, show (10000 * (20 + (i - 15) / 3) + 11) / 100 % 100 = 0 by omega]; decide
  · rw [show axO i = _ from if_neg (by omega), h3, show (10000 * (20 + (i - 15) / 3) + 11) % 100 = 11 by omega]; decide
theorem axDec1 {i : Nat} (h : 15 ≤ i) (h3 : (i - 15) % 3 = 1) : axDec i (10000 * (20 + (i - 15) / 3) + 602) := by
  refine ⟨?_, ?_, ?_⟩
  · rw [show axS i = _ from if_neg (by omega)]; congr 1; omega
  · rw [show axP i = _ from if_neg (by omega), h3, show (10000 * (20 + (i - 15) / 3) + 602) / 100 % 100 = 6 by omega]; decide
  · rw [show axO i = _ from if_neg (by omega), h3, show (10000 * (20 + (i - 15) / 3) + 602) % 100 = 2 by omega]; decide
theorem axDec2 {i : Nat} (h : 15 ≤ i) (h3 : (i - 15) % 3 = 2) : axDec i (10000 * (20 + (i - 15) / 3) + 702) := by
  refine ⟨?_, ?_, ?_⟩
  · rw [show axS i = _ from if_neg (by omega)]; congr 1; omega
  · rw [show axP i = _ from if_neg (by omega), h3, show (10000 * (20 + (i - 15) / 3) + 702) / 100 % 100 = 7 by omega]; decide
  · rw [show axO i = _ from if_neg (by omega), h3, show (10000 * (20 + (i - 15) / 3) + 702) % 100 = 2 by omega]; decide

set_option maxHeartbeats 4000000 in
set_option maxRecDepth 100000 in
theorem c_X6_axiom (l : Launch) (D : va_G) (g : ClassId × ClassId × ClassId) (hm : Nat) (e : Nat → Nat) (M : Nat → Nat → Int32) (cd : Int32) (mb ak : Bool) (cnt k nl n m md : Nat) (fu : Bool) (hcn : cnt ≤ 9) (i : Nat) (hi : i < 42) : zM l yX6_axiom wsX6_axiom ({ frames := 0, cells := 0, slots := 0, locals := 0 } : Room) D g [.ref hm, .int (nI i)] [(hm, .inr (6, [.int cd, .int (zb mb), .int (zb ak), .int (nI cnt), .int (nI k), .ref (e 0), .int (nI nl), .ref (e 1), .int (nI n), .ref (e 2), .int (nI m), .int (nI md), .ref (e 3), .ref (e 4), .int (zb fu), .ref (e 5)]))] 0 0 (fun v w1 => (i < axLim mb cnt ∧ ∃ a, a < 300000 ∧ axDec i a ∧ v = some (.int (nI a)) ∧ w1 = [(hm, .inr (6, [.int cd, .int (zb mb), .int (zb ak), .int (nI cnt), .int (nI k), .ref (e 0), .int (nI nl), .ref (e 1), .int (nI n), .ref (e 2), .int (nI m), .int (nI md), .ref (e 3), .ref (e 4), .int (zb fu), .ref (e 5)]))]) ∨ (axLim mb cnt ≤ i ∧ v = some (.int (-1)) ∧ w1 = [(hm, .inr (6, [.int cd, .int (zb mb), .int (zb ak), .int (nI cnt), .int (nI k), .ref (e 0), .int (nI nl), .ref (e 1), .int (nI n), .ref (e 2), .int (nI m), .int (nI md), .ref (e 3), .ref (e 4), .int (zb fu), .ref (e 5)]))])) := by
  refine z_met (cc := cX6_axiom) (maxL := 4) (ret := (some .int)) (lv := [(0, .ref hm), (1, .int (nI i))]) (by decide) rfl (Nat.le_of_ble_eq_true rfl) rfl ?_
  intro X hXD hXg hXl hnm C E
  subst hXD hXg hXl
  have C : zC X cX6_axiom 4 RX6 wsX6_axiom ({ frames := 0, cells := 0, slots := 0, locals := 0 } : Room) := C
  have hiX6 : ∀ w ∈ u_ws RX6 TX6 16, w ∈ wsX6_axiom := by decide +kernel
  have hf7 : Cond.fieldLink RX6 7 "RdfsRulesModel" "counted" "I" ∈ wsX6_axiom := by decide +kernel
  have hf32 : Cond.fieldLink RX6 32 "RdfsRulesModel" "memberships" "Z" ∈ wsX6_axiom := by decide +kernel
  have hc63 : Cond.constant RX6 63 (60601) ∈ wsX6_axiom := by decide +kernel
  have hc64 : Cond.constant RX6 64 (60703) ∈ wsX6_axiom := by decide +kernel
  have hc65 : Cond.constant RX6 65 (70601) ∈ wsX6_axiom := by decide +kernel
  have hc66 : Cond.constant RX6 66 (70703) ∈ wsX6_axiom := by decide +kernel
  have hc67 : Cond.constant RX6 67 (50601) ∈ wsX6_axiom := by decide +kernel
  have hc68 : Cond.constant RX6 68 (50701) ∈ wsX6_axiom := by decide +kernel
  have hc69 : Cond.constant RX6 69 (40603) ∈ wsX6_axiom := by decide +kernel
  have hc70 : Cond.constant RX6 70 (40703) ∈ wsX6_axiom := by decide +kernel
  have hc71 : Cond.constant RX6 71 (100602) ∈ wsX6_axiom := by decide +kernel
  have hc72 : Cond.constant RX6 72 (100702) ∈ wsX6_axiom := by decide +kernel
  have hc73 : Cond.constant RX6 73 (110401) ∈ wsX6_axiom := by decide +kernel
  have hc74 : Cond.constant RX6 74 (90403) ∈ wsX6_axiom := by decide +kernel
  by_cases h15 : i < 15
  · skip
    rcases (show i = 0 ∨ i = 1 ∨ i = 2 ∨ i = 3 ∨ i = 4 ∨ i = 5 ∨ i = 6 ∨ i = 7 ∨ i = 8 ∨ i = 9 ∨ i = 10 ∨ i = 11 ∨ i = 12 ∨ i = 13 ∨ i = 14 by omega) with rfl | rfl | rfl | rfl | rfl | rfl | rfl | rfl | rfl | rfl | rfl | rfl | rfl | rfl | rfl
    · skip
      refine z_iload_n (q := 1) C 1 rfl rfl dX6_axiom_0 rfl ?_
      refine z_tableIn (off := 75) (tgt := 76) C dX6_axiom_1 (by decide) (by decide) (by decide) (by decide) ?_
      refine z_iconst (q := 77) C k_iconst_1 dX6_axiom_76 rfl ?_
      refine z_iret C E (by omega) (by omega) dX6_axiom_77 ?_
      exact Or.inl ⟨by unfold axLim; omega, 1, by omega, ⟨by decide, by decide, by decide⟩, rfl, rfl⟩
    · skip
      refine z_iload_n (q := 1) C 1 rfl rfl dX6_axiom_0 rfl ?_
      refine z_tableIn (off := 77) (tgt := 78) C dX6_axiom_1 (by decide) (by decide) (by decide) (by decide) ?_
      refine z_sipush (q := 81) C k_sipush_602 dX6_axiom_78 rfl ?_
      refine z_iret C E (by omega) (by omega) dX6_axiom_81 ?_
      exact Or.inl ⟨by unfold axLim; omega, 602, by omega, ⟨by decide, by decide, by decide⟩, rfl, rfl⟩
    · skip
      refine z_iload_n (q := 1) C 1 rfl rfl dX6_axiom_0 rfl ?_
      refine z_tableIn (off := 81) (tgt := 82) C dX6_axiom_1 (by decide) (by decide) (by decide) (by decide) ?_
      refine z_sipush (q := 85) C k_sipush_703 dX6_axiom_82 rfl ?_
      refine z_iret C E (by omega) (by omega) dX6_axiom_85 ?_
      exact Or.inl ⟨by unfold axLim; omega, 703, by omega, ⟨by decide, by decide, by decide⟩, rfl, rfl⟩
    · skip
      refine z_iload_n (q := 1) C 1 rfl rfl dX6_axiom_0 rfl ?_
      refine z_tableIn (off := 85) (tgt := 86) C dX6_axiom_1 (by decide) (by decide) (by decide) (by decide) ?_
      refine z_ldc (q := 88) C hc63 dX6_axiom_86 rfl ?_
      refine z_eqi (y := nI 60601) k_ldc_60601 ?_
      refine z_iret C E (by omega) (by omega) dX6_axiom_88 ?_
      exact Or.inl ⟨by unfold axLim; omega, 60601, by omega, ⟨by decide, by decide, by decide⟩, rfl, rfl⟩
    · skip
      refine z_iload_n (q := 1) C 1 rfl rfl dX6_axiom_0 rfl ?_
      refine z_tableIn (off := 88) (tgt := 89) C dX6_axiom_1 (by decide) (by decide) (by decide) (by decide) ?_
      refine z_ldc (q := 91) C hc64 dX6_axiom_89 rfl ?_
      refine z_eqi (y := nI 60703) k_ldc_60703 ?_
      refine z_iret C E (by omega) (by omega) dX6_axiom_91 ?_
      exact Or.inl ⟨by unfold axLim; omega, 60703, by omega, ⟨by decide, by decide, by decide⟩, rfl, rfl⟩
    · skip
      refine z_iload_n (q := 1) C 1 rfl rfl dX6_axiom_0 rfl ?_
      refine z_tableIn (off := 91) (tgt := 92) C dX6_axiom_1 (by decide) (by decide) (by decide) (by decide) ?_
      refine z_ldc (q := 94) C hc65 dX6_axiom_92 rfl ?_
      refine z_eqi (y := nI 70601) k_ldc_70601 ?_
      refine z_iret C E (by omega) (by omega) dX6_axiom_94 ?_
      exact Or.inl ⟨by unfold axLim; omega, 70601, by omega, ⟨by decide, by decide, by decide⟩, rfl, rfl⟩
    · skip
      refine z_iload_n (q := 1) C 1 rfl rfl dX6_axiom_0 rfl ?_
      refine z_tableIn (off := 94) (tgt := 95) C dX6_axiom_1 (by decide) (by decide) (by decide) (by decide) ?_
      refine z_ldc (q := 97) C hc66 dX6_axiom_95 rfl ?_
      refine z_eqi (y := nI 70703) k_ldc_70703 ?_
      refine z_iret C E (by omega) (by omega) dX6_axiom_97 ?_
      exact Or.inl ⟨by unfold axLim; omega, 70703, by omega, ⟨by decide, by decide, by decide⟩, rfl, rfl⟩
    · skip
      refine z_iload_n (q := 1) C 1 rfl rfl dX6_axiom_0 rfl ?_
      refine z_tableIn (off := 97) (tgt := 98) C dX6_axiom_1 (by decide) (by decide) (by decide) (by decide) ?_
      refine z_ldc (q := 100) C hc67 dX6_axiom_98 rfl ?_
      refine z_eqi (y := nI 50601) k_ldc_50601 ?_
      refine z_iret C E (by omega) (by omega) dX6_axiom_100 ?_
      exact Or.inl ⟨by unfold axLim; omega, 50601, by omega, ⟨by decide, by decide, by decide⟩, rfl, rfl⟩
    · skip
      refine z_iload_n (q := 1) C 1 rfl rfl dX6_axiom_0 rfl ?_
      refine z_tableIn (off := 100) (tgt := 101) C dX6_axiom_1 (by decide) (by decide) (by decide) (by decide) ?_
      refine z_ldc (q := 103) C hc68 dX6_axiom_101 rfl ?_
      refine z_eqi (y := nI 50701) k_ldc_50701 ?_
      refine z_iret C E (by omega) (by omega) dX6_axiom_103 ?_
      exact Or.inl ⟨by unfold axLim; omega, 50701, by omega, ⟨by decide, by decide, by decide⟩, rfl, rfl⟩
    · skip
      refine z_iload_n (q := 1) C 1 rfl rfl dX6_axiom_0 rfl ?_
      refine z_tableIn (off := 103) (tgt := 104) C dX6_axiom_1 (by decide) (by decide) (by decide) (by decide) ?_
      refine z_ldc (q := 106) C hc69 dX6_axiom_104 rfl ?_
      refine z_eqi (y := nI 40603) k_ldc_40603 ?_
      refine z_iret C E (by omega) (by omega) dX6_axiom_106 ?_
      exact Or.inl ⟨by unfold axLim; omega, 40603, by omega, ⟨by decide, by decide, by decide⟩, rfl, rfl⟩
    · skip
      refine z_iload_n (q := 1) C 1 rfl rfl dX6_axiom_0 rfl ?_
      refine z_tableIn (off := 106) (tgt := 107) C dX6_axiom_1 (by decide) (by decide) (by decide) (by decide) ?_
      refine z_ldc (q := 109) C hc70 dX6_axiom_107 rfl ?_
      refine z_eqi (y := nI 40703) k_ldc_40703 ?_
      refine z_iret C E (by omega) (by omega) dX6_axiom_109 ?_
      exact Or.inl ⟨by unfold axLim; omega, 40703, by omega, ⟨by decide, by decide, by decide⟩, rfl, rfl⟩
    · skip
      refine z_iload_n (q := 1) C 1 rfl rfl dX6_axiom_0 rfl ?_
      refine z_tableIn (off := 109) (tgt := 110) C dX6_axiom_1 (by decide) (by decide) (by decide) (by decide) ?_
      refine z_ldc (q := 112) C hc71 dX6_axiom_110 rfl ?_
      refine z_eqi (y := nI 100602) k_ldc_100602 ?_
      refine z_iret C E (by omega) (by omega) dX6_axiom_112 ?_
      exact Or.inl ⟨by unfold axLim; omega, 100602, by omega, ⟨by decide, by decide, by decide⟩, rfl, rfl⟩
    · skip
      refine z_iload_n (q := 1) C 1 rfl rfl dX6_axiom_0 rfl ?_
      refine z_tableIn (off := 112) (tgt := 113) C dX6_axiom_1 (by decide) (by decide) (by decide) (by decide) ?_
      refine z_ldc (q := 115) C hc72 dX6_axiom_113 rfl ?_
      refine z_eqi (y := nI 100702) k_ldc_100702 ?_
      refine z_iret C E (by omega) (by omega) dX6_axiom_115 ?_
      exact Or.inl ⟨by unfold axLim; omega, 100702, by omega, ⟨by decide, by decide, by decide⟩, rfl, rfl⟩
    · skip
      refine z_iload_n (q := 1) C 1 rfl rfl dX6_axiom_0 rfl ?_
      refine z_tableIn (off := 115) (tgt := 116) C dX6_axiom_1 (by decide) (by decide) (by decide) (by decide) ?_
      refine z_ldc (q := 118) C hc73 dX6_axiom_116 rfl ?_
      refine z_eqi (y := nI 110401) k_ldc_110401 ?_
      refine z_iret C E (by omega) (by omega) dX6_axiom_118 ?_
      exact Or.inl ⟨by unfold axLim; omega, 110401, by omega, ⟨by decide, by decide, by decide⟩, rfl, rfl⟩
    · skip
      refine z_iload_n (q := 1) C 1 rfl rfl dX6_axiom_0 rfl ?_
      refine z_tableIn (off := 118) (tgt := 119) C dX6_axiom_1 (by decide) (by decide) (by decide) (by decide) ?_
      refine z_ldc (q := 121) C hc74 dX6_axiom_119 rfl ?_
      refine z_eqi (y := nI 90403) k_ldc_90403 ?_
      refine z_iret C E (by omega) (by omega) dX6_axiom_121 ?_
      exact Or.inl ⟨by unfold axLim; omega, 90403, by omega, ⟨by decide, by decide, by decide⟩, rfl, rfl⟩
  · skip
    refine z_iload_n (q := 1) C 1 rfl rfl dX6_axiom_0 rfl ?_
    refine z_tableOut (tgt := 122) C dX6_axiom_1 (Or.inr (by rw [nI_toInt (by omega)]; omega)) (by decide) ?_
    refine z_iload_n (q := 123) C 1 rfl rfl dX6_axiom_122 rfl ?_
    refine z_bipush (q := 125) C k_bipush_15 dX6_axiom_123 rfl ?_
    refine z_isub (q := 126) C dX6_axiom_125 rfl ?_
    refine z_eqi (y := nI (i - 15)) (pk_sub (a := i) (b := 15) (by omega)) ?_
    refine z_istore_n (q := 127) (lv' := [(2, .int (nI (i - 15))), (0, .ref hm), (1, .int (nI i))]) C rfl dX6_axiom_126 rfl (by decide) rfl ?_
    refine z_bipush (q := 129) C k_bipush_20 dX6_axiom_127 rfl ?_
    refine z_iload_n (q := 130) C 0 rfl rfl dX6_axiom_129 rfl ?_
    refine z_iconst (q := 131) C k_iconst_3 dX6_axiom_130 rfl ?_
    refine z_idiv (q := 132) C (by decide) dX6_axiom_131 rfl ?_
    refine z_eqi (y := nI ((i - 15) / 3)) (pk_div (a := i - 15) (d := 3) (by omega) (by omega) (by omega)) ?_
    refine z_iadd (q := 133) C dX6_axiom_132 rfl ?_
    refine z_eqi (y := nI (20 + ((i - 15) / 3))) (nI_add 20 ((i - 15) / 3)) ?_
    refine z_istore_n (q := 134) (lv' := [(3, .int (nI (20 + ((i - 15) / 3)))), (2, .int (nI (i - 15))), (0, .ref hm), (1, .int (nI i))]) C rfl dX6_axiom_133 rfl (by decide) rfl ?_
    refine z_iload_n (q := 135) C 1 rfl rfl dX6_axiom_134 rfl ?_
    refine z_aload_n (q := 136) C 2 rfl rfl dX6_axiom_135 rfl ?_
    refine z_get (q := 139) (v := .int (zb mb)) C hiX6 0 1 rfl rfl (by decide) hf32 rfl dX6_axiom_136 rfl ?_
    refine z_if_eq_b (q := 142) (tgt := 151) C dX6_axiom_139 (by decide) rfl (fun c139 => ?_) (fun c139 => ?_)
    · skip
      refine z_iconst (q := 152) C k_iconst_0 dX6_axiom_151 rfl ?_
      refine z_icmp_lt_n (q := 155) (tgt := 159) C (by omega) (by omega) dX6_axiom_152 (by decide) rfl (fun c152 => ?_) (fun c152 => ?_)
      · skip
        refine z_sipush (q := 162) C k_sipush_10000 dX6_axiom_159 rfl ?_
        refine z_iload_n (q := 163) C 0 rfl rfl dX6_axiom_162 rfl ?_
        refine z_imul (q := 164) C dX6_axiom_163 rfl ?_
        refine z_eqi (y := nI (10000 * (20 + ((i - 15) / 3)))) (pk_mul 10000 (20 + ((i - 15) / 3))) ?_
        refine z_iload_n (q := 165) C 1 rfl rfl dX6_axiom_164 rfl ?_
        refine z_iconst (q := 166) C k_iconst_3 dX6_axiom_165 rfl ?_
        refine z_irem (q := 167) C (by decide) dX6_axiom_166 rfl ?_
        refine z_eqi (y := nI ((i - 15) % 3)) (pk_rem (a := i - 15) (d := 3) (by omega) (by omega) (by omega)) ?_
        refine z_if_ne_n (q := 170) (tgt := 175) C (by omega) dX6_axiom_167 (by decide) rfl (fun c167 => ?_) (fun c167 => ?_)
        · skip
          refine z_iload_n (q := 176) C 1 rfl rfl dX6_axiom_175 rfl ?_
          refine z_iconst (q := 177) C k_iconst_3 dX6_axiom_176 rfl ?_
          refine z_irem (q := 178) C (by decide) dX6_axiom_177 rfl ?_
          refine z_eqi (y := nI ((i - 15) % 3)) (pk_rem (a := i - 15) (d := 3) (by omega) (by omega) (by omega)) ?_
          refine z_iconst (q := 179) C k_iconst_1 dX6_axiom_178 rfl ?_
          refine z_icmp_ne_n (q := 182) (tgt := 188) C (by omega) (by omega) dX6_axiom_179 (by decide) rfl (fun c179 => ?_) (fun c179 => ?_)
          · skip
            refine z_sipush (q := 191) C k_sipush_702 dX6_axiom_188 rfl ?_
            refine z_iadd (q := 192) C dX6_axiom_191 rfl ?_
            refine z_eqi (y := nI ((10000 * (20 + ((i - 15) / 3))) + 702)) (nI_add (10000 * (20 + ((i - 15) / 3))) 702) ?_
            refine z_iret C E (by omega) (by omega) dX6_axiom_192 ?_
            exact Or.inl ⟨by rw [show axLim mb cnt = 15 by unfold axLim; rw [if_neg (by rw [c139]; decide)]]; omega, _, by omega, axDec2 (by omega) (by omega), rfl, rfl⟩
          · skip
            refine z_sipush (q := 185) C k_sipush_602 dX6_axiom_182 rfl ?_
            refine z_goto (tgt := 191) C dX6_axiom_185 (by decide) ?_
            refine z_iadd (q := 192) C dX6_axiom_191 rfl ?_
            refine z_eqi (y := nI ((10000 * (20 + ((i - 15) / 3))) + 602)) (nI_add (10000 * (20 + ((i - 15) / 3))) 602) ?_
            refine z_iret C E (by omega) (by omega) dX6_axiom_192 ?_
            exact Or.inl ⟨by rw [show axLim mb cnt = 15 by unfold axLim; rw [if_neg (by rw [c139]; decide)]]; omega, _, by omega, axDec1 (by omega) (by omega), rfl, rfl⟩
        · skip
          refine z_bipush (q := 172) C k_bipush_11 dX6_axiom_170 rfl ?_
          refine z_goto (tgt := 191) C dX6_axiom_172 (by decide) ?_
          refine z_iadd (q := 192) C dX6_axiom_191 rfl ?_
          refine z_eqi (y := nI ((10000 * (20 + ((i - 15) / 3))) + 11)) (nI_add (10000 * (20 + ((i - 15) / 3))) 11) ?_
          refine z_iret C E (by omega) (by omega) dX6_axiom_192 ?_
          exact Or.inl ⟨by rw [show axLim mb cnt = 15 by unfold axLim; rw [if_neg (by rw [c139]; decide)]]; omega, _, by omega, axDec0 (by omega) (by omega), rfl, rfl⟩
      · skip
        refine z_iconst (q := 156) C k_iconst_m1 dX6_axiom_155 rfl ?_
        refine z_goto (tgt := 192) C dX6_axiom_156 (by decide) ?_
        refine z_iret C E (by omega) (by omega) dX6_axiom_192 ?_
        exact Or.inr ⟨by rw [show axLim mb cnt = 15 by unfold axLim; rw [if_neg (by rw [c139]; decide)]]; omega, rfl, rfl⟩
    · skip
      refine z_iconst (q := 143) C k_iconst_3 dX6_axiom_142 rfl ?_
      refine z_aload_n (q := 144) C 2 rfl rfl dX6_axiom_143 rfl ?_
      refine z_get (q := 147) (v := .int (nI cnt)) C hiX6 0 3 rfl rfl (by decide) hf7 rfl dX6_axiom_144 rfl ?_
      refine z_imul (q := 148) C dX6_axiom_147 rfl ?_
      refine z_eqi (y := nI (3 * cnt)) (pk_mul 3 cnt) ?_
      refine z_goto (tgt := 152) C dX6_axiom_148 (by decide) ?_
      refine z_icmp_lt_n (q := 155) (tgt := 159) C (by omega) (by omega) dX6_axiom_152 (by decide) rfl (fun c152 => ?_) (fun c152 => ?_)
      · skip
        refine z_sipush (q := 162) C k_sipush_10000 dX6_axiom_159 rfl ?_
        refine z_iload_n (q := 163) C 0 rfl rfl dX6_axiom_162 rfl ?_
        refine z_imul (q := 164) C dX6_axiom_163 rfl ?_
        refine z_eqi (y := nI (10000 * (20 + ((i - 15) / 3)))) (pk_mul 10000 (20 + ((i - 15) / 3))) ?_
        refine z_iload_n (q := 165) C 1 rfl rfl dX6_axiom_164 rfl ?_
        refine z_iconst (q := 166) C k_iconst_3 dX6_axiom_165 rfl ?_
        refine z_irem (q := 167) C (by decide) dX6_axiom_166 rfl ?_
        refine z_eqi (y := nI ((i - 15) % 3)) (pk_rem (a := i - 15) (d := 3) (by omega) (by omega) (by omega)) ?_
        refine z_if_ne_n (q := 170) (tgt := 175) C (by omega) dX6_axiom_167 (by decide) rfl (fun c167 => ?_) (fun c167 => ?_)
        · skip
          refine z_iload_n (q := 176) C 1 rfl rfl dX6_axiom_175 rfl ?_
          refine z_iconst (q := 177) C k_iconst_3 dX6_axiom_176 rfl ?_
          refine z_irem (q := 178) C (by decide) dX6_axiom_177 rfl ?_
          refine z_eqi (y := nI ((i - 15) % 3)) (pk_rem (a := i - 15) (d := 3) (by omega) (by omega) (by omega)) ?_
          refine z_iconst (q := 179) C k_iconst_1 dX6_axiom_178 rfl ?_
          refine z_icmp_ne_n (q := 182) (tgt := 188) C (by omega) (by omega) dX6_axiom_179 (by decide) rfl (fun c179 => ?_) (fun c179 => ?_)
          · skip
            refine z_sipush (q := 191) C k_sipush_702 dX6_axiom_188 rfl ?_
            refine z_iadd (q := 192) C dX6_axiom_191 rfl ?_
            refine z_eqi (y := nI ((10000 * (20 + ((i - 15) / 3))) + 702)) (nI_add (10000 * (20 + ((i - 15) / 3))) 702) ?_
            refine z_iret C E (by omega) (by omega) dX6_axiom_192 ?_
            exact Or.inl ⟨by rw [show axLim mb cnt = 15 + 3 * cnt by unfold axLim; rw [if_pos c139]]; omega, _, by omega, axDec2 (by omega) (by omega), rfl, rfl⟩
          · skip
            refine z_sipush (q := 185) C k_sipush_602 dX6_axiom_182 rfl ?_
            refine z_goto (tgt := 191) C dX6_axiom_185 (by decide) ?_
            refine z_iadd (q := 192) C dX6_axiom_191 rfl ?_
            refine z_eqi (y := nI ((10000 * (20 + ((i - 15) / 3))) + 602)) (nI_add (10000 * (20 + ((i - 15) / 3))) 602) ?_
            refine z_iret C E (by omega) (by omega) dX6_axiom_192 ?_
            exact Or.inl ⟨by rw [show axLim mb cnt = 15 + 3 * cnt by unfold axLim; rw [if_pos c139]]; omega, _, by omega, axDec1 (by omega) (by omega), rfl, rfl⟩
        · skip
          refine z_bipush (q := 172) C k_bipush_11 dX6_axiom_170 rfl ?_
          refine z_goto (tgt := 191) C dX6_axiom_172 (by decide) ?_
          refine z_iadd (q := 192) C dX6_axiom_191 rfl ?_
          refine z_eqi (y := nI ((10000 * (20 + ((i - 15) / 3))) + 11)) (nI_add (10000 * (20 + ((i - 15) / 3))) 11) ?_
          refine z_iret C E (by omega) (by omega) dX6_axiom_192 ?_
          exact Or.inl ⟨by rw [show axLim mb cnt = 15 + 3 * cnt by unfold axLim; rw [if_pos c139]]; omega, _, by omega, axDec0 (by omega) (by omega), rfl, rfl⟩
      · skip
        refine z_iconst (q := 156) C k_iconst_m1 dX6_axiom_155 rfl ?_
        refine z_goto (tgt := 192) C dX6_axiom_156 (by decide) ?_
        refine z_iret C E (by omega) (by omega) dX6_axiom_192 ?_
        exact Or.inr ⟨by rw [show axLim mb cnt = 15 + 3 * cnt by unfold axLim; rw [if_pos c139]]; omega, rfl, rfl⟩

theorem axLim_le {mb : Bool} {cnt : Nat} (h : cnt ≤ 9) : axLim mb cnt ≤ 42 := by unfold axLim; split <;> omega
theorem axLim_sz {mb : Bool} {cnt : Nat} : axLim mb cnt = axSz mb true cnt := by
  unfold axLim axSz memN
  cases mb <;> simp
theorem axHas_up {s p o : Int32} {i lim : Nat} (h : i < lim) : axHas s p o (min (i + 1) lim) = (axHas s p o (min i lim) || decide (axS i = s ∧ axP i = p ∧ axO i = o)) := by
  rw [Nat.min_eq_left (by omega), Nat.min_eq_left (by omega)]
  rfl
theorem axHas_no {s p o : Int32} {i lim : Nat} (h : lim ≤ i) : axHas s p o (min (i + 1) lim) = axHas s p o (min i lim) := by
  rw [Nat.min_eq_right (by omega), Nat.min_eq_right (by omega)]

set_option maxHeartbeats 4000000 in
set_option maxRecDepth 100000 in
theorem l_X6_isAxiom {X : zX} (hm : Nat) (e : Nat → Nat) (M : Nat → Nat → Int32) (cd : Int32) (mb ak : Bool) (cnt k nl n m md : Nat) (fu : Bool) (hcn : cnt ≤ 9) (s p o : Int32) (C : zC X cX6_isAxiom 7 RX6 wsX6_isAxiom ({ frames := 1, cells := 0, slots := 0, locals := 23 } : Room)) (E : zE X (some .boolean) 0 0 (fun v w1 => v = some (.int (zb (axHas s p o (axSz mb ak cnt)))) ∧ w1 = [(hm, .inr (6, [.int cd, .int (zb mb), .int (zb ak), .int (nI cnt), .int (nI k), .ref (e 0), .int (nI nl), .ref (e 1), .int (nI n), .ref (e 2), .int (nI m), .int (nI md), .ref (e 3), .ref (e 4), .int (zb fu), .ref (e 5)]))])) : ∀ (z : Nat) (i : Nat), i ≤ 42 → 42 < i + z → (0 < i → ak = true) → zW X 7 [(hm, .inr (6, [.int cd, .int (zb mb), .int (zb ak), .int (nI cnt), .int (nI k), .ref (e 0), .int (nI nl), .ref (e 1), .int (nI n), .ref (e 2), .int (nI m), .int (nI md), .ref (e 3), .ref (e 4), .int (zb fu), .ref (e 5)]))] 0 0 6 [(0, .ref hm), (1, .int s), (2, .int p), (3, .int o), (4, .int (zb (axHas s p o (min i (axLim mb cnt))))), (5, .int (nI i))] [] := by
  have hiX6 : ∀ w ∈ u_ws RX6 TX6 16, w ∈ wsX6_isAxiom := by decide +kernel
  have hf75 : Cond.fieldLink RX6 75 "RdfsRulesModel" "asked" "Z" ∈ wsX6_isAxiom := by decide +kernel
  intro z
  induction z with
  | zero =>
    intro i hi hz hak
    exfalso
    omega
  | succ z ih =>
    intro i hi hz hak
    refine z_iload (q := 8) C 5 rfl dX6_isAxiom_6 rfl ?_
    refine z_bipush (q := 10) C k_bipush_42 dX6_isAxiom_8 rfl ?_
    refine z_icmp_ge_n (q := 13) (tgt := 82) C (by omega) (by omega) dX6_isAxiom_10 (by decide) rfl (fun c10 => ?_) (fun c10 => ?_)
    · skip
      refine z_iload (q := 84) C 4 rfl dX6_isAxiom_82 rfl ?_
      refine z_zret C E (by omega) (by omega) (zb_nar _) dX6_isAxiom_84 ?_
      have h42 := axLim_le (mb := mb) hcn
      exact ⟨by rw [show min i (axLim mb cnt) = axSz mb ak cnt by rw [hak (by omega), ← axLim_sz]; omega], rfl⟩
    · skip
      refine z_aload_n (q := 14) C 0 rfl rfl dX6_isAxiom_13 rfl ?_
      refine z_get (q := 17) (v := .int (zb ak)) C hiX6 0 2 rfl rfl (by decide) hf75 rfl dX6_isAxiom_14 rfl ?_
      refine z_if_eq_b (q := 20) (tgt := 82) C dX6_isAxiom_17 (by decide) rfl (fun c17 => ?_) (fun c17 => ?_)
      · skip
        refine z_iload (q := 84) C 4 rfl dX6_isAxiom_82 rfl ?_
        refine z_zret C E (by omega) (by omega) (zb_nar _) dX6_isAxiom_84 ?_
        have h0 : i = 0 := by rcases Nat.eq_zero_or_pos i with z | z; exact z; exact absurd (hak z) (by rw [c17]; decide)
        exact ⟨by rw [h0, show axSz mb ak cnt = 0 from if_neg (by rw [c17]; decide), Nat.zero_min], rfl⟩
      · skip
        refine z_aload_n (q := 21) C 0 rfl rfl dX6_isAxiom_20 rfl ?_
        refine z_iload (q := 23) C 5 rfl dX6_isAxiom_21 rfl ?_
        refine z_callV (q := 26) (n := 1) (As := [.int (nI i)]) (rest := []) (wr := []) C (c_X6_axiom X.l X.D X.2.1 hm e M cd mb ak cnt k nl n m md fu hcn i (by omega)) gX6_isAxiom_X6_axiom rfl rfl rfl (by decide +kernel) (by decide) ⟨by first | decide | omega, by first | decide | omega⟩ 0 6 rfl rfl [0] [] rfl rfl (by decide) (by decide) (by decide) rfl rfl (Nat.le_of_ble_eq_true rfl) dX6_isAxiom_23 rfl (fun v w1 hp => ?_)
        rcases hp with ⟨hlim, a, ha, ⟨e1, e2, e3⟩, rfl, rfl⟩ | ⟨hlim, rfl, rfl⟩
        · skip
          show zW X 7 [(hm, .inr (6, [.int cd, .int (zb mb), .int (zb ak), .int (nI cnt), .int (nI k), .ref (e 0), .int (nI nl), .ref (e 1), .int (nI n), .ref (e 2), .int (nI m), .int (nI md), .ref (e 3), .ref (e 4), .int (zb fu), .ref (e 5)]))] _ _ 26 _ [.int (nI a)]
          refine z_istore (q := 28) (lv' := [(6, .int (nI a)), (0, .ref hm), (1, .int s), (2, .int p), (3, .int o), (4, .int (zb (axHas s p o (min i (axLim mb cnt))))), (5, .int (nI i))]) C dX6_isAxiom_26 rfl (by decide) rfl ?_
          refine z_iload (q := 30) C 5 rfl dX6_isAxiom_28 rfl ?_
          refine z_if_ne_b (q := 33) (tgt := 69) C dX6_isAxiom_30 (by decide) rfl (fun c30 => ?_) (fun c30 => ?_)
          · skip
            refine z_iconst (q := 70) C k_iconst_1 dX6_isAxiom_69 rfl ?_
            refine z_goto (tgt := 74) C dX6_isAxiom_70 (by decide) ?_
            refine z_eqi (y := zb (axHas s p o (min (i + 1) (axLim mb cnt)))) (zb_is1 (by rw [axHas_up hlim, c30]; rfl)) ?_
            refine z_istore (q := 76) (lv' := [(4, .int (zb (axHas s p o (min (i + 1) (axLim mb cnt))))), (6, .int (nI a)), (0, .ref hm), (1, .int s), (2, .int p), (3, .int o), (5, .int (nI i))]) C dX6_isAxiom_74 rfl (by decide) rfl ?_
            refine z_iinc (q := 79) (v := nI (i + 1)) (lv' := [(5, .int (nI (i + 1))), (4, .int (zb (axHas s p o (min (i + 1) (axLim mb cnt))))), (6, .int (nI a)), (0, .ref hm), (1, .int s), (2, .int p), (3, .int o)]) C 6 dX6_isAxiom_76 rfl rfl (k_inc1 i) (by decide) rfl ?_
            refine z_goto (tgt := 6) C dX6_isAxiom_79 (by decide) ?_
            refine z_lv [3, 4, 5, 6, 1, 0] rfl ?_
            exact ih (i + 1) (by omega) (by omega) (fun _ => c17)
          · skip
            refine z_iload (q := 35) C 0 rfl dX6_isAxiom_33 rfl ?_
            refine z_if_lt_n (q := 38) (tgt := 73) C (by omega) dX6_isAxiom_35 (by decide) rfl (fun c35 => ?_) (fun c35 => ?_)
            · skip
              exact c35.elim
            · skip
              refine z_iload (q := 40) C 0 rfl dX6_isAxiom_38 rfl ?_
              refine z_sipush (q := 43) C k_sipush_10000 dX6_isAxiom_40 rfl ?_
              refine z_idiv (q := 44) C (by decide) dX6_isAxiom_43 rfl ?_
              refine z_eqi (y := nI (a / 10000)) (pk_div (a := a) (d := 10000) (by omega) (by omega) (by omega)) ?_
              refine z_iload_n (q := 45) C 2 rfl rfl dX6_isAxiom_44 rfl ?_
              refine z_icmp_ne (q := 48) (tgt := 73) C dX6_isAxiom_45 (by decide) rfl (fun c45 => ?_) (fun c45 => ?_)
              · skip
                refine z_iconst (q := 74) C k_iconst_0 dX6_isAxiom_73 rfl ?_
                refine z_eqi (y := zb (axHas s p o (min (i + 1) (axLim mb cnt)))) (zb_is0 (by rw [axHas_up hlim, c30, decide_eq_false (fun z => c45 (e1.trans z.1))]; rfl)) ?_
                refine z_istore (q := 76) (lv' := [(4, .int (zb (axHas s p o (min (i + 1) (axLim mb cnt))))), (6, .int (nI a)), (0, .ref hm), (1, .int s), (2, .int p), (3, .int o), (5, .int (nI i))]) C dX6_isAxiom_74 rfl (by decide) rfl ?_
                refine z_iinc (q := 79) (v := nI (i + 1)) (lv' := [(5, .int (nI (i + 1))), (4, .int (zb (axHas s p o (min (i + 1) (axLim mb cnt))))), (6, .int (nI a)), (0, .ref hm), (1, .int s), (2, .int p), (3, .int o)]) C 6 dX6_isAxiom_76 rfl rfl (k_inc1 i) (by decide) rfl ?_
                refine z_goto (tgt := 6) C dX6_isAxiom_79 (by decide) ?_
                refine z_lv [3, 4, 5, 6, 1, 0] rfl ?_
                exact ih (i + 1) (by omega) (by omega) (fun _ => c17)
              · skip
                refine z_iload (q := 50) C 0 rfl dX6_isAxiom_48 rfl ?_
                refine z_bipush (q := 52) C k_bipush_100 dX6_isAxiom_50 rfl ?_
                refine z_idiv (q := 53) C (by decide) dX6_isAxiom_52 rfl ?_
                refine z_eqi (y := nI (a / 100)) (pk_div (a := a) (d := 100) (by omega) (by omega) (by omega)) ?_
                refine z_bipush (q := 55) C k_bipush_100 dX6_isAxiom_53 rfl ?_
                refine z_irem (q := 56) C (by decide) dX6_isAxiom_55 rfl ?_
                refine z_eqi (y := nI ((a / 100) % 100)) (pk_rem (a := a / 100) (d := 100) (by omega) (by omega) (by omega)) ?_
                refine z_iload_n (q := 57) C 3 rfl rfl dX6_isAxiom_56 rfl ?_
                refine z_icmp_ne (q := 60) (tgt := 73) C dX6_isAxiom_57 (by decide) rfl (fun c57 => ?_) (fun c57 => ?_)
                · skip
                  refine z_iconst (q := 74) C k_iconst_0 dX6_isAxiom_73 rfl ?_
                  refine z_eqi (y := zb (axHas s p o (min (i + 1) (axLim mb cnt)))) (zb_is0 (by rw [axHas_up hlim, c30, decide_eq_false (fun z => c57 (e2.trans z.2.1))]; rfl)) ?_
                  refine z_istore (q := 76) (lv' := [(4, .int (zb (axHas s p o (min (i + 1) (axLim mb cnt))))), (6, .int (nI a)), (0, .ref hm), (1, .int s), (2, .int p), (3, .int o), (5, .int (nI i))]) C dX6_isAxiom_74 rfl (by decide) rfl ?_
                  refine z_iinc (q := 79) (v := nI (i + 1)) (lv' := [(5, .int (nI (i + 1))), (4, .int (zb (axHas s p o (min (i + 1) (axLim mb cnt))))), (6, .int (nI a)), (0, .ref hm), (1, .int s), (2, .int p), (3, .int o)]) C 6 dX6_isAxiom_76 rfl rfl (k_inc1 i) (by decide) rfl ?_
                  refine z_goto (tgt := 6) C dX6_isAxiom_79 (by decide) ?_
                  refine z_lv [3, 4, 5, 6, 1, 0] rfl ?_
                  exact ih (i + 1) (by omega) (by omega) (fun _ => c17)
                · skip
                  refine z_iload (q := 62) C 0 rfl dX6_isAxiom_60 rfl ?_
                  refine z_bipush (q := 64) C k_bipush_100 dX6_isAxiom_62 rfl ?_
                  refine z_irem (q := 65) C (by decide) dX6_isAxiom_64 rfl ?_
                  refine z_eqi (y := nI (a % 100)) (pk_rem (a := a) (d := 100) (by omega) (by omega) (by omega)) ?_
                  refine z_iload_n (q := 66) C 4 rfl rfl dX6_isAxiom_65 rfl ?_
                  refine z_icmp_ne (q := 69) (tgt := 73) C dX6_isAxiom_66 (by decide) rfl (fun c66 => ?_) (fun c66 => ?_)
                  · skip
                    refine z_iconst (q := 74) C k_iconst_0 dX6_isAxiom_73 rfl ?_
                    refine z_eqi (y := zb (axHas s p o (min (i + 1) (axLim mb cnt)))) (zb_is0 (by rw [axHas_up hlim, c30, decide_eq_false (fun z => c66 (e3.trans z.2.2))]; rfl)) ?_
                    refine z_istore (q := 76) (lv' := [(4, .int (zb (axHas s p o (min (i + 1) (axLim mb cnt))))), (6, .int (nI a)), (0, .ref hm), (1, .int s), (2, .int p), (3, .int o), (5, .int (nI i))]) C dX6_isAxiom_74 rfl (by decide) rfl ?_
                    refine z_iinc (q := 79) (v := nI (i + 1)) (lv' := [(5, .int (nI (i + 1))), (4, .int (zb (axHas s p o (min (i + 1) (axLim mb cnt))))), (6, .int (nI a)), (0, .ref hm), (1, .int s), (2, .int p), (3, .int o)]) C 6 dX6_isAxiom_76 rfl rfl (k_inc1 i) (by decide) rfl ?_
                    refine z_goto (tgt := 6) C dX6_isAxiom_79 (by decide) ?_
                    refine z_lv [3, 4, 5, 6, 1, 0] rfl ?_
                    exact ih (i + 1) (by omega) (by omega) (fun _ => c17)
                  · skip
                    refine z_iconst (q := 70) C k_iconst_1 dX6_isAxiom_69 rfl ?_
                    refine z_goto (tgt := 74) C dX6_isAxiom_70 (by decide) ?_
                    refine z_eqi (y := zb (axHas s p o (min (i + 1) (axLim mb cnt)))) (zb_is1 (by rw [axHas_up hlim, decide_eq_true ⟨e1.symm.trans c45, e2.symm.trans c57, e3.symm.trans c66⟩, Bool.or_true])) ?_
                    refine z_istore (q := 76) (lv' := [(4, .int (zb (axHas s p o (min (i + 1) (axLim mb cnt))))), (6, .int (nI a)), (0, .ref hm), (1, .int s), (2, .int p), (3, .int o), (5, .int (nI i))]) C dX6_isAxiom_74 rfl (by decide) rfl ?_
                    refine z_iinc (q := 79) (v := nI (i + 1)) (lv' := [(5, .int (nI (i + 1))), (4, .int (zb (axHas s p o (min (i + 1) (axLim mb cnt))))), (6, .int (nI a)), (0, .ref hm), (1, .int s), (2, .int p), (3, .int o)]) C 6 dX6_isAxiom_76 rfl rfl (k_inc1 i) (by decide) rfl ?_
                    refine z_goto (tgt := 6) C dX6_isAxiom_79 (by decide) ?_
                    refine z_lv [3, 4, 5, 6, 1, 0] rfl ?_
                    exact ih (i + 1) (by omega) (by omega) (fun _ => c17)
        · skip
          show zW X 7 [(hm, .inr (6, [.int cd, .int (zb mb), .int (zb ak), .int (nI cnt), .int (nI k), .ref (e 0), .int (nI nl), .ref (e 1), .int (nI n), .ref (e 2), .int (nI m), .int (nI md), .ref (e 3), .ref (e 4), .int (zb fu), .ref (e 5)]))] _ _ 26 _ [.int (-1)]
          refine z_istore (q := 28) (lv' := [(6, .int (-1)), (0, .ref hm), (1, .int s), (2, .int p), (3, .int o), (4, .int (zb (axHas s p o (min i (axLim mb cnt))))), (5, .int (nI i))]) C dX6_isAxiom_26 rfl (by decide) rfl ?_
          refine z_iload (q := 30) C 5 rfl dX6_isAxiom_28 rfl ?_
          refine z_if_ne_b (q := 33) (tgt := 69) C dX6_isAxiom_30 (by decide) rfl (fun c30 => ?_) (fun c30 => ?_)
          · skip
            refine z_iconst (q := 70) C k_iconst_1 dX6_isAxiom_69 rfl ?_
            refine z_goto (tgt := 74) C dX6_isAxiom_70 (by decide) ?_
            refine z_eqi (y := zb (axHas s p o (min (i + 1) (axLim mb cnt)))) (zb_is1 (by rw [axHas_no hlim]; exact c30)) ?_
            refine z_istore (q := 76) (lv' := [(4, .int (zb (axHas s p o (min (i + 1) (axLim mb cnt))))), (6, .int (-1)), (0, .ref hm), (1, .int s), (2, .int p), (3, .int o), (5, .int (nI i))]) C dX6_isAxiom_74 rfl (by decide) rfl ?_
            refine z_iinc (q := 79) (v := nI (i + 1)) (lv' := [(5, .int (nI (i + 1))), (4, .int (zb (axHas s p o (min (i + 1) (axLim mb cnt))))), (6, .int (-1)), (0, .ref hm), (1, .int s), (2, .int p), (3, .int o)]) C 6 dX6_isAxiom_76 rfl rfl (k_inc1 i) (by decide) rfl ?_
            refine z_goto (tgt := 6) C dX6_isAxiom_79 (by decide) ?_
            refine z_lv [3, 4, 5, 6, 1, 0] rfl ?_
            exact ih (i + 1) (by omega) (by omega) (fun _ => c17)
          · skip
            refine z_iload (q := 35) C 0 rfl dX6_isAxiom_33 rfl ?_
            refine z_if_lt_i (q := 38) (tgt := 73) C ti_m1 dX6_isAxiom_35 (by decide) rfl (fun c35 => ?_) (fun c35 => ?_)
            · skip
              refine z_iconst (q := 74) C k_iconst_0 dX6_isAxiom_73 rfl ?_
              refine z_eqi (y := zb (axHas s p o (min (i + 1) (axLim mb cnt)))) (zb_is0 (by rw [axHas_no hlim]; exact c30)) ?_
              refine z_istore (q := 76) (lv' := [(4, .int (zb (axHas s p o (min (i + 1) (axLim mb cnt))))), (6, .int (-1)), (0, .ref hm), (1, .int s), (2, .int p), (3, .int o), (5, .int (nI i))]) C dX6_isAxiom_74 rfl (by decide) rfl ?_
              refine z_iinc (q := 79) (v := nI (i + 1)) (lv' := [(5, .int (nI (i + 1))), (4, .int (zb (axHas s p o (min (i + 1) (axLim mb cnt))))), (6, .int (-1)), (0, .ref hm), (1, .int s), (2, .int p), (3, .int o)]) C 6 dX6_isAxiom_76 rfl rfl (k_inc1 i) (by decide) rfl ?_
              refine z_goto (tgt := 6) C dX6_isAxiom_79 (by decide) ?_
              refine z_lv [3, 4, 5, 6, 1, 0] rfl ?_
              exact ih (i + 1) (by omega) (by omega) (fun _ => c17)
            · skip
              exact absurd c35 (by decide)

set_option maxHeartbeats 4000000 in
set_option maxRecDepth 100000 in
theorem c_X6_isAxiom (l : Launch) (D : va_G) (g : ClassId × ClassId × ClassId) (hm : Nat) (e : Nat → Nat) (M : Nat → Nat → Int32) (cd : Int32) (mb ak : Bool) (cnt k nl n m md : Nat) (fu : Bool) (hcn : cnt ≤ 9) (s p o : Int32) : zM l yX6_isAxiom wsX6_isAxiom ({ frames := 1, cells := 0, slots := 0, locals := 23 } : Room) D g [.ref hm, .int s, .int p, .int o] [(hm, .inr (6, [.int cd, .int (zb mb), .int (zb ak), .int (nI cnt), .int (nI k), .ref (e 0), .int (nI nl), .ref (e 1), .int (nI n), .ref (e 2), .int (nI m), .int (nI md), .ref (e 3), .ref (e 4), .int (zb fu), .ref (e 5)]))] 0 0 (fun v w1 => v = some (.int (zb (axHas s p o (axSz mb ak cnt)))) ∧ w1 = [(hm, .inr (6, [.int cd, .int (zb mb), .int (zb ak), .int (nI cnt), .int (nI k), .ref (e 0), .int (nI nl), .ref (e 1), .int (nI n), .ref (e 2), .int (nI m), .int (nI md), .ref (e 3), .ref (e 4), .int (zb fu), .ref (e 5)]))]) := by
  refine z_met (cc := cX6_isAxiom) (maxL := 7) (ret := (some .boolean)) (lv := [(0, .ref hm), (1, .int s), (2, .int p), (3, .int o)]) (by decide) rfl (Nat.le_of_ble_eq_true rfl) rfl ?_
  intro X hXD hXg hXl hnm C E
  subst hXD hXg hXl
  have C : zC X cX6_isAxiom 7 RX6 wsX6_isAxiom ({ frames := 1, cells := 0, slots := 0, locals := 23 } : Room) := C
  refine z_iconst (q := 1) C k_iconst_0 dX6_isAxiom_0 rfl ?_
  refine z_istore (q := 3) (lv' := [(4, .int (nI 0)), (0, .ref hm), (1, .int s), (2, .int p), (3, .int o)]) C dX6_isAxiom_1 rfl (by decide) rfl ?_
  refine z_iconst (q := 4) C k_iconst_0 dX6_isAxiom_3 rfl ?_
  refine z_istore (q := 6) (lv' := [(5, .int (nI 0)), (4, .int (nI 0)), (0, .ref hm), (1, .int s), (2, .int p), (3, .int o)]) C dX6_isAxiom_4 rfl (by decide) rfl ?_
  refine z_lv [2, 3, 4, 5, 1, 0] rfl ?_
  have key := l_X6_isAxiom hm e M cd mb ak cnt k nl n m md fu hcn s p o C E 43 0 (by omega) (by omega) (fun h => absurd h (by decide))
  rw [Nat.zero_min] at key
  exact key

set_option maxHeartbeats 4000000 in
set_option maxRecDepth 100000 in
theorem l_X6_remove {X : zX} (hm : Nat) (e : Nat → Nat) (M : Nat → Nat → Int32) (cd : Int32) (mb ak : Bool) (cnt k nl n m md : Nat) (fu : Bool) (hnl : nl ≤ 40) (hcn : cnt ≤ 9) (GL : List Row) (hG : mgRep (M 0) k GL) (s p o : Int32) (i : Nat) (hik : i < k) (hh : hasF GL s p o = true) (hrm : remL GL s p o = GL.eraseIdx i) (c8 : factB nl s p o = true) (C : zC X cX6_remove 6 RX6 wsX6_remove ({ frames := 2, cells := 0, slots := 0, locals := 49 } : Room)) (E : zE X (some .int) 0 0 (fun v w1 => (cdRem nl s p o = 1 ∧ v = some (.int (nI 0)) ∧ w1 = [(hm, .inr (6, [.int (nI 1), .int (zb mb), .int (zb ak), .int (nI cnt), .int (nI k), .ref (e 0), .int (nI nl), .ref (e 1), .int (nI n), .ref (e 2), .int (nI m), .int (nI md), .ref (e 3), .ref (e 4), .int (zb fu), .ref (e 5)])), (e 0, .inl (X.cI, 240, .inl (M 0))), (e 1, .inl (X.cI, 40, .inl (M 1))), (e 2, .inl (X.cI, 4200, .inl (M 2))), (e 3, .inl (X.cI, 4207, .inl (M 3))), (e 4, .inl (X.cI, 2048, .inl (M 4))), (e 5, .inl (X.cI, 600, .inl (M 5)))]) ∨ (cdRem nl s p o = 0 ∧ ∃ (f0 : Nat → Int32) (k1 : Nat), mgRep f0 k1 (remL GL s p o) ∧ v = some (.int (remV GL (axSz mb ak cnt) s p o)) ∧ w1 = [(hm, .inr (6, [.int (nI 0), .int (zb mb), .int (zb ak), .int (nI cnt), .int (nI k1), .ref (e 0), .int (nI nl), .ref (e 1), .int (nI n), .ref (e 2), .int (nI m), .int (nI md), .ref (e 3), .ref (e 4), .int (zb fu), .ref (e 5)])), (e 0, .inl (X.cI, 240, .inl f0)), (e 1, .inl (X.cI, 40, .inl (M 1))), (e 2, .inl (X.cI, 4200, .inl (M 2))), (e 3, .inl (X.cI, 4207, .inl (M 3))), (e 4, .inl (X.cI, 2048, .inl (M 4))), (e 5, .inl (X.cI, 600, .inl (M 5)))]))) : ∀ (z : Nat) (q : Nat) (f0 : Nat → Int32), 3 * i ≤ q → q ≤ 3 * (k - 1) → 3 * (k - 1) < q + z → (∀ r, f0 r = if 3 * i ≤ r ∧ r < q then M 0 (r + 3) else M 0 r) → zW X 6 [(hm, .inr (6, [.int (nI 0), .int (zb mb), .int (zb ak), .int (nI cnt), .int (nI (k - 1)), .ref (e 0), .int (nI nl), .ref (e 1), .int (nI n), .ref (e 2), .int (nI m), .int (nI md), .ref (e 3), .ref (e 4), .int (zb fu), .ref (e 5)])), (e 0, .inl (X.cI, 240, .inl f0)), (e 1, .inl (X.cI, 40, .inl (M 1))), (e 2, .inl (X.cI, 4200, .inl (M 2))), (e 3, .inl (X.cI, 4207, .inl (M 3))), (e 4, .inl (X.cI, 2048, .inl (M 4))), (e 5, .inl (X.cI, 600, .inl (M 5)))] 0 0 74 [(0, .ref hm), (1, .int s), (2, .int p), (3, .int o), (4, .int (nI i)), (5, .int (nI q))] [] := by
  have hiX6 : ∀ w ∈ u_ws RX6 TX6 16, w ∈ wsX6_remove := by decide +kernel
  have hf13 : Cond.fieldLink RX6 13 "RdfsRulesModel" "facts" "[I" ∈ wsX6_remove := by decide +kernel
  have hf49 : Cond.fieldLink RX6 49 "RdfsRulesModel" "given" "I" ∈ wsX6_remove := by decide +kernel
  intro z
  induction z with
  | zero =>
    intro q f0 hiq hq hz hf
    exfalso
    omega
  | succ z ih =>
    intro q f0 hiq hq hz hf
    have hk8 := hG.le
    refine z_iload (q := 76) C 5 rfl dX6_remove_74 rfl ?_
    refine z_iconst (q := 77) C k_iconst_3 dX6_remove_76 rfl ?_
    refine z_aload_n (q := 78) C 0 rfl rfl dX6_remove_77 rfl ?_
    refine z_get (q := 81) (v := .int (nI (k - 1))) C hiX6 0 4 rfl rfl (by decide) hf49 rfl dX6_remove_78 rfl ?_
    refine z_imul (q := 82) C dX6_remove_81 rfl ?_
    refine z_eqi (y := nI (3 * (k - 1))) (pk_mul 3 (k - 1)) ?_
    refine z_icmp_ge_n (q := 85) (tgt := 107) C (by omega) (by omega) dX6_remove_82 (by decide) rfl (fun c82 => ?_) (fun c82 => ?_)
    · skip
      refine z_iconst (q := 108) C k_iconst_1 dX6_remove_107 rfl ?_
      refine z_iret C E (by omega) (by omega) dX6_remove_108 ?_
      exact Or.inr ⟨by unfold cdRem; rw [if_neg (by rw [c8]; decide)], f0, k - 1, by rw [hrm]; exact hG.drop hik (fun r => by rw [hf r, show q = 3 * (k - 1) by omega]), by rw [show remV GL (axSz mb ak cnt) s p o = nI 1 from if_pos hh], rfl⟩
    · skip
      refine z_aload_n (q := 86) C 0 rfl rfl dX6_remove_85 rfl ?_
      refine z_get (q := 89) (v := .ref (e 0)) C hiX6 0 5 rfl rfl (by decide) hf13 rfl dX6_remove_86 rfl ?_
      refine z_iload (q := 91) C 5 rfl dX6_remove_89 rfl ?_
      refine z_aload_n (q := 92) C 0 rfl rfl dX6_remove_91 rfl ?_
      refine z_get (q := 95) (v := .ref (e 0)) C hiX6 0 5 rfl rfl (by decide) hf13 rfl dX6_remove_92 rfl ?_
      refine z_iload (q := 97) C 5 rfl dX6_remove_95 rfl ?_
      refine z_iconst (q := 98) C k_iconst_3 dX6_remove_97 rfl ?_
      refine z_iadd (q := 99) C dX6_remove_98 rfl ?_
      refine z_eqi (y := nI (q + 3)) (nI_add q 3) ?_
      refine z_iald (q := 100) C 1 rfl (i := q + 3) (by omega) (by decide) dX6_remove_99 rfl ?_
      refine z_iast (q := 101) (ws' := [(hm, .inr (6, [.int (nI 0), .int (zb mb), .int (zb ak), .int (nI cnt), .int (nI (k - 1)), .ref (e 0), .int (nI nl), .ref (e 1), .int (nI n), .ref (e 2), .int (nI m), .int (nI md), .ref (e 3), .ref (e 4), .int (zb fu), .ref (e 5)])), (e 0, .inl (X.cI, 240, .inl (upd f0 q (f0 (q + 3))))), (e 1, .inl (X.cI, 40, .inl (M 1))), (e 2, .inl (X.cI, 4200, .inl (M 2))), (e 3, .inl (X.cI, 4207, .inl (M 3))), (e 4, .inl (X.cI, 2048, .inl (M 4))), (e 5, .inl (X.cI, 600, .inl (M 5)))]) C 1 rfl (i := q) (by omega) (by decide) dX6_remove_100 rfl rfl ?_
      refine z_iinc (q := 104) (v := nI (q + 1)) (lv' := [(5, .int (nI (q + 1))), (0, .ref hm), (1, .int s), (2, .int p), (3, .int o), (4, .int (nI i))]) C 5 dX6_remove_101 rfl rfl (k_inc1 q) (by decide) rfl ?_
      refine z_goto (tgt := 74) C dX6_remove_104 (by decide) ?_
      refine z_lv [1, 2, 3, 4, 5, 0] rfl ?_
      refine ih (q + 1) (upd f0 q (f0 (q + 3))) (by omega) (by omega) (by omega) (fun r => ?_)
      show (if r = q then f0 (q + 3) else f0 r) = _
      split
      · rename_i e9
        subst e9
        rw [hf (r + 3), if_neg (by omega), if_pos (by omega)]
      · rw [hf r]
        by_cases c9 : 3 * i ≤ r ∧ r < q
        · rw [if_pos c9, if_pos (by omega)]
        · rw [if_neg c9, if_neg (by omega)]

set_option maxHeartbeats 4000000 in
set_option maxRecDepth 100000 in
theorem c_X6_remove (l : Launch) (D : va_G) (g : ClassId × ClassId × ClassId) (hm : Nat) (e : Nat → Nat) (M : Nat → Nat → Int32) (cd : Int32) (mb ak : Bool) (cnt k nl n m md : Nat) (fu : Bool) (hnl : nl ≤ 40) (hcn : cnt ≤ 9) (GL : List Row) (hG : mgRep (M 0) k GL) (s p o : Int32) : zM l yX6_remove wsX6_remove ({ frames := 2, cells := 0, slots := 0, locals := 49 } : Room) D g [.ref hm, .int s, .int p, .int o] [(hm, .inr (6, [.int cd, .int (zb mb), .int (zb ak), .int (nI cnt), .int (nI k), .ref (e 0), .int (nI nl), .ref (e 1), .int (nI n), .ref (e 2), .int (nI m), .int (nI md), .ref (e 3), .ref (e 4), .int (zb fu), .ref (e 5)])), (e 0, .inl (g.1, 240, .inl (M 0))), (e 1, .inl (g.1, 40, .inl (M 1))), (e 2, .inl (g.1, 4200, .inl (M 2))), (e 3, .inl (g.1, 4207, .inl (M 3))), (e 4, .inl (g.1, 2048, .inl (M 4))), (e 5, .inl (g.1, 600, .inl (M 5)))] 0 0 (fun v w1 => (cdRem nl s p o = 1 ∧ v = some (.int (nI 0)) ∧ w1 = [(hm, .inr (6, [.int (nI 1), .int (zb mb), .int (zb ak), .int (nI cnt), .int (nI k), .ref (e 0), .int (nI nl), .ref (e 1), .int (nI n), .ref (e 2), .int (nI m), .int (nI md), .ref (e 3), .ref (e 4), .int (zb fu), .ref (e 5)])), (e 0, .inl (g.1, 240, .inl (M 0))), (e 1, .inl (g.1, 40, .inl (M 1))), (e 2, .inl (g.1, 4200, .inl (M 2))), (e 3, .inl (g.1, 4207, .inl (M 3))), (e 4, .inl (g.1, 2048, .inl (M 4))), (e 5, .inl (g.1, 600, .inl (M 5)))]) ∨ (cdRem nl s p o = 0 ∧ ∃ (f0 : Nat → Int32) (k1 : Nat), mgRep f0 k1 (remL GL s p o) ∧ v = some (.int (remV GL (axSz mb ak cnt) s p o)) ∧ w1 = [(hm, .inr (6, [.int (nI 0), .int (zb mb), .int (zb ak), .int (nI cnt), .int (nI k1), .ref (e 0), .int (nI nl), .ref (e 1), .int (nI n), .ref (e 2), .int (nI m), .int (nI md), .ref (e 3), .ref (e 4), .int (zb fu), .ref (e 5)])), (e 0, .inl (g.1, 240, .inl f0)), (e 1, .inl (g.1, 40, .inl (M 1))), (e 2, .inl (g.1, 4200, .inl (M 2))), (e 3, .inl (g.1, 4207, .inl (M 3))), (e 4, .inl (g.1, 2048, .inl (M 4))), (e 5, .inl (g.1, 600, .inl (M 5)))])) := by
  refine z_met (cc := cX6_remove) (maxL := 6) (ret := (some .int)) (lv := [(0, .ref hm), (1, .int s), (2, .int p), (3, .int o)]) (by decide) rfl (Nat.le_of_ble_eq_true rfl) rfl ?_
  intro X hXD hXg hXl hnm C E
  subst hXD hXg hXl
  have C : zC X cX6_remove 6 RX6 wsX6_remove ({ frames := 2, cells := 0, slots := 0, locals := 49 } : Room) := C
  have hiX6 : ∀ w ∈ u_ws RX6 TX6 16, w ∈ wsX6_remove := by decide +kernel
  have hf49 : Cond.fieldLink RX6 49 "RdfsRulesModel" "given" "I" ∈ wsX6_remove := by decide +kernel
  have hk8 := hG.le
  refine z_aload_n (q := 1) C 0 rfl rfl dX6_remove_0 rfl ?_
  refine z_aload_n (q := 2) C 0 rfl rfl dX6_remove_1 rfl ?_
  refine z_iload_n (q := 3) C 1 rfl rfl dX6_remove_2 rfl ?_
  refine z_iload_n (q := 4) C 2 rfl rfl dX6_remove_3 rfl ?_
  refine z_iload_n (q := 5) C 3 rfl rfl dX6_remove_4 rfl ?_
  refine z_callV (q := 8) (n := 3) (As := [.int s, .int p, .int o]) (rest := [.ref hm]) (wr := [(e 0, .inl (X.cI, 240, .inl (M 0))), (e 1, .inl (X.cI, 40, .inl (M 1))), (e 2, .inl (X.cI, 4200, .inl (M 2))), (e 3, .inl (X.cI, 4207, .inl (M 3))), (e 4, .inl (X.cI, 2048, .inl (M 4))), (e 5, .inl (X.cI, 600, .inl (M 5)))]) C (c_X6_isFact X.l X.D X.2.1 hm e M cd mb ak cnt k nl n m md fu hnl s p o) gX6_remove_X6_isFact rfl rfl rfl (by decide +kernel) (by decide) ⟨by first | decide | omega, by first | decide | omega⟩ 0 6 rfl rfl [0] [1, 2, 3, 4, 5, 6] rfl rfl (by decide) (by decide) (by decide) rfl rfl (Nat.le_of_ble_eq_true rfl) dX6_remove_5 rfl (fun v w1 hp => ?_)
  obtain ⟨rfl, rfl⟩ := hp
  show zW X 6 [(e 0, .inl (X.cI, 240, .inl (M 0))), (e 1, .inl (X.cI, 40, .inl (M 1))), (e 2, .inl (X.cI, 4200, .inl (M 2))), (e 3, .inl (X.cI, 4207, .inl (M 3))), (e 4, .inl (X.cI, 2048, .inl (M 4))), (e 5, .inl (X.cI, 600, .inl (M 5))), (hm, .inr (6, [.int cd, .int (zb mb), .int (zb ak), .int (nI cnt), .int (nI k), .ref (e 0), .int (nI nl), .ref (e 1), .int (nI n), .ref (e 2), .int (nI m), .int (nI md), .ref (e 3), .ref (e 4), .int (zb fu), .ref (e 5)]))] _ _ 8 _ [.int (zb (factB nl s p o)), .ref hm]
  refine z_ws (ws' := [(hm, .inr (6, [.int cd, .int (zb mb), .int (zb ak), .int (nI cnt), .int (nI k), .ref (e 0), .int (nI nl), .ref (e 1), .int (nI n), .ref (e 2), .int (nI m), .int (nI md), .ref (e 3), .ref (e 4), .int (zb fu), .ref (e 5)])), (e 0, .inl (X.cI, 240, .inl (M 0))), (e 1, .inl (X.cI, 40, .inl (M 1))), (e 2, .inl (X.cI, 4200, .inl (M 2))), (e 3, .inl (X.cI, 4207, .inl (M 3))), (e 4, .inl (X.cI, 2048, .inl (M 4))), (e 5, .inl (X.cI, 600, .inl (M 5)))]) [6, 0, 1, 2, 3, 4, 5] (by decide) rfl ?_
  refine z_if_eq_b (q := 11) (tgt := 15) C dX6_remove_8 (by decide) rfl (fun c8 => ?_) (fun c8 => ?_)
  · skip
    refine z_iconst (q := 16) C k_iconst_1 dX6_remove_15 rfl ?_
    refine z_callV (q := 19) (n := 1) (As := [.int (nI 1)]) (rest := []) (wr := [(e 0, .inl (X.cI, 240, .inl (M 0))), (e 1, .inl (X.cI, 40, .inl (M 1))), (e 2, .inl (X.cI, 4200, .inl (M 2))), (e 3, .inl (X.cI, 4207, .inl (M 3))), (e 4, .inl (X.cI, 2048, .inl (M 4))), (e 5, .inl (X.cI, 600, .inl (M 5)))]) C (c_X6_refuses X.l X.D X.2.1 hm e M cd mb ak cnt k nl n m md fu 1 (by omega)) gX6_remove_X6_refuses rfl rfl rfl (by decide +kernel) (by decide) ⟨by first | decide | omega, by first | decide | omega⟩ 0 6 rfl rfl [0] [1, 2, 3, 4, 5, 6] rfl rfl (by decide) (by decide) (by decide) rfl rfl (Nat.le_of_ble_eq_true rfl) dX6_remove_16 rfl (fun v w1 hp => ?_)
    obtain ⟨rfl, rfl⟩ := hp
    show zW X 6 [(e 0, .inl (X.cI, 240, .inl (M 0))), (e 1, .inl (X.cI, 40, .inl (M 1))), (e 2, .inl (X.cI, 4200, .inl (M 2))), (e 3, .inl (X.cI, 4207, .inl (M 3))), (e 4, .inl (X.cI, 2048, .inl (M 4))), (e 5, .inl (X.cI, 600, .inl (M 5))), (hm, .inr (6, [.int (nI 1), .int (zb mb), .int (zb ak), .int (nI cnt), .int (nI k), .ref (e 0), .int (nI nl), .ref (e 1), .int (nI n), .ref (e 2), .int (nI m), .int (nI md), .ref (e 3), .ref (e 4), .int (zb fu), .ref (e 5)]))] _ _ 19 _ [.int (zb (decide (0 < 1)))]
    refine z_ws (ws' := [(hm, .inr (6, [.int (nI 1), .int (zb mb), .int (zb ak), .int (nI cnt), .int (nI k), .ref (e 0), .int (nI nl), .ref (e 1), .int (nI n), .ref (e 2), .int (nI m), .int (nI md), .ref (e 3), .ref (e 4), .int (zb fu), .ref (e 5)])), (e 0, .inl (X.cI, 240, .inl (M 0))), (e 1, .inl (X.cI, 40, .inl (M 1))), (e 2, .inl (X.cI, 4200, .inl (M 2))), (e 3, .inl (X.cI, 4207, .inl (M 3))), (e 4, .inl (X.cI, 2048, .inl (M 4))), (e 5, .inl (X.cI, 600, .inl (M 5)))]) [6, 0, 1, 2, 3, 4, 5] (by decide) rfl ?_
    refine z_if_eq_b (q := 22) (tgt := 24) C dX6_remove_19 (by decide) rfl (fun c19 => ?_) (fun c19 => ?_)
    · skip
      exact absurd c19 (by decide)
    · skip
      refine z_iconst (q := 23) C k_iconst_0 dX6_remove_22 rfl ?_
      refine z_iret C E (by omega) (by omega) dX6_remove_23 ?_
      exact Or.inl ⟨if_pos c8, rfl, rfl⟩
  · skip
    refine z_iconst (q := 12) C k_iconst_0 dX6_remove_11 rfl ?_
    refine z_goto (tgt := 16) C dX6_remove_12 (by decide) ?_
    refine z_callV (q := 19) (n := 1) (As := [.int (nI 0)]) (rest := []) (wr := [(e 0, .inl (X.cI, 240, .inl (M 0))), (e 1, .inl (X.cI, 40, .inl (M 1))), (e 2, .inl (X.cI, 4200, .inl (M 2))), (e 3, .inl (X.cI, 4207, .inl (M 3))), (e 4, .inl (X.cI, 2048, .inl (M 4))), (e 5, .inl (X.cI, 600, .inl (M 5)))]) C (c_X6_refuses X.l X.D X.2.1 hm e M cd mb ak cnt k nl n m md fu 0 (by omega)) gX6_remove_X6_refuses rfl rfl rfl (by decide +kernel) (by decide) ⟨by first | decide | omega, by first | decide | omega⟩ 0 6 rfl rfl [0] [1, 2, 3, 4, 5, 6] rfl rfl (by decide) (by decide) (by decide) rfl rfl (Nat.le_of_ble_eq_true rfl) dX6_remove_16 rfl (fun v w1 hp => ?_)
    obtain ⟨rfl, rfl⟩ := hp
    show zW X 6 [(e 0, .inl (X.cI, 240, .inl (M 0))), (e 1, .inl (X.cI, 40, .inl (M 1))), (e 2, .inl (X.cI, 4200, .inl (M 2))), (e 3, .inl (X.cI, 4207, .inl (M 3))), (e 4, .inl (X.cI, 2048, .inl (M 4))), (e 5, .inl (X.cI, 600, .inl (M 5))), (hm, .inr (6, [.int (nI 0), .int (zb mb), .int (zb ak), .int (nI cnt), .int (nI k), .ref (e 0), .int (nI nl), .ref (e 1), .int (nI n), .ref (e 2), .int (nI m), .int (nI md), .ref (e 3), .ref (e 4), .int (zb fu), .ref (e 5)]))] _ _ 19 _ [.int (zb (decide (0 < 0)))]
    refine z_ws (ws' := [(hm, .inr (6, [.int (nI 0), .int (zb mb), .int (zb ak), .int (nI cnt), .int (nI k), .ref (e 0), .int (nI nl), .ref (e 1), .int (nI n), .ref (e 2), .int (nI m), .int (nI md), .ref (e 3), .ref (e 4), .int (zb fu), .ref (e 5)])), (e 0, .inl (X.cI, 240, .inl (M 0))), (e 1, .inl (X.cI, 40, .inl (M 1))), (e 2, .inl (X.cI, 4200, .inl (M 2))), (e 3, .inl (X.cI, 4207, .inl (M 3))), (e 4, .inl (X.cI, 2048, .inl (M 4))), (e 5, .inl (X.cI, 600, .inl (M 5)))]) [6, 0, 1, 2, 3, 4, 5] (by decide) rfl ?_
    refine z_if_eq_b (q := 22) (tgt := 24) C dX6_remove_19 (by decide) rfl (fun c19 => ?_) (fun c19 => ?_)
    · skip
      refine z_aload_n (q := 25) C 0 rfl rfl dX6_remove_24 rfl ?_
      refine z_iload_n (q := 26) C 1 rfl rfl dX6_remove_25 rfl ?_
      refine z_iload_n (q := 27) C 2 rfl rfl dX6_remove_26 rfl ?_
      refine z_iload_n (q := 28) C 3 rfl rfl dX6_remove_27 rfl ?_
      refine z_callV (q := 31) (n := 3) (As := [.int s, .int p, .int o]) (rest := []) (wr := [(e 1, .inl (X.cI, 40, .inl (M 1))), (e 2, .inl (X.cI, 4200, .inl (M 2))), (e 3, .inl (X.cI, 4207, .inl (M 3))), (e 4, .inl (X.cI, 2048, .inl (M 4))), (e 5, .inl (X.cI, 600, .inl (M 5)))]) C (c_X6_place X.l X.D X.2.1 hm e M (nI 0) mb ak cnt k nl n m md fu GL hG s p o) gX6_remove_X6_place rfl rfl rfl (by decide +kernel) (by decide) ⟨by first | decide | omega, by first | decide | omega⟩ 0 6 rfl rfl [0, 1] [2, 3, 4, 5, 6] rfl rfl (by decide) (by decide) (by decide) rfl rfl (Nat.le_of_ble_eq_true rfl) dX6_remove_28 rfl (fun v w1 hp => ?_)
      obtain ⟨i, hi, rfl, rfl⟩ := hp
      have hik : i ≤ k := by rcases hi with z | z; exact Nat.le_of_lt z.1; exact Nat.le_of_eq z.1
      show zW X 6 [(e 1, .inl (X.cI, 40, .inl (M 1))), (e 2, .inl (X.cI, 4200, .inl (M 2))), (e 3, .inl (X.cI, 4207, .inl (M 3))), (e 4, .inl (X.cI, 2048, .inl (M 4))), (e 5, .inl (X.cI, 600, .inl (M 5))), (hm, .inr (6, [.int (nI 0), .int (zb mb), .int (zb ak), .int (nI cnt), .int (nI k), .ref (e 0), .int (nI nl), .ref (e 1), .int (nI n), .ref (e 2), .int (nI m), .int (nI md), .ref (e 3), .ref (e 4), .int (zb fu), .ref (e 5)])), (e 0, .inl (X.cI, 240, .inl (M 0)))] _ _ 31 _ [.int (nI i)]
      refine z_ws (ws' := [(hm, .inr (6, [.int (nI 0), .int (zb mb), .int (zb ak), .int (nI cnt), .int (nI k), .ref (e 0), .int (nI nl), .ref (e 1), .int (nI n), .ref (e 2), .int (nI m), .int (nI md), .ref (e 3), .ref (e 4), .int (zb fu), .ref (e 5)])), (e 0, .inl (X.cI, 240, .inl (M 0))), (e 1, .inl (X.cI, 40, .inl (M 1))), (e 2, .inl (X.cI, 4200, .inl (M 2))), (e 3, .inl (X.cI, 4207, .inl (M 3))), (e 4, .inl (X.cI, 2048, .inl (M 4))), (e 5, .inl (X.cI, 600, .inl (M 5)))]) [5, 6, 0, 1, 2, 3, 4] (by decide) rfl ?_
      refine z_istore (q := 33) (lv' := [(4, .int (nI i)), (0, .ref hm), (1, .int s), (2, .int p), (3, .int o)]) C dX6_remove_31 rfl (by decide) rfl ?_
      refine z_iload (q := 35) C 0 rfl dX6_remove_33 rfl ?_
      refine z_aload_n (q := 36) C 1 rfl rfl dX6_remove_35 rfl ?_
      refine z_get (q := 39) (v := .int (nI k)) C hiX6 0 4 rfl rfl (by decide) hf49 rfl dX6_remove_36 rfl ?_
      refine z_icmp_ne_n (q := 42) (tgt := 58) C (by omega) (by omega) dX6_remove_39 (by decide) rfl (fun c39 => ?_) (fun c39 => ?_)
      · skip
        have hik2 : i < k := by omega
        have hh : hasF GL s p o = true := by rcases hi with z | z; exact z.2.1; exact absurd z.1 (by omega)
        have hrm : remL GL s p o = GL.eraseIdx i := by rcases hi with z | z; exact z.2.2; exact absurd z.1 (by omega)
        refine z_aload_n (q := 59) C 1 rfl rfl dX6_remove_58 rfl ?_
        refine z_dup (q := 60) C rfl dX6_remove_59 rfl ?_
        refine z_get (q := 63) (v := .int (nI k)) C hiX6 0 4 rfl rfl (by decide) hf49 rfl dX6_remove_60 rfl ?_
        refine z_iconst (q := 64) C k_iconst_1 dX6_remove_63 rfl ?_
        refine z_isub (q := 65) C dX6_remove_64 rfl ?_
        refine z_eqi (y := nI (k - 1)) (pk_sub (a := k) (b := 1) (by omega)) ?_
        refine z_put (q := 68) (ws' := [(hm, .inr (6, [.int (nI 0), .int (zb mb), .int (zb ak), .int (nI cnt), .int (nI (k - 1)), .ref (e 0), .int (nI nl), .ref (e 1), .int (nI n), .ref (e 2), .int (nI m), .int (nI md), .ref (e 3), .ref (e 4), .int (zb fu), .ref (e 5)])), (e 0, .inl (X.cI, 240, .inl (M 0))), (e 1, .inl (X.cI, 40, .inl (M 1))), (e 2, .inl (X.cI, 4200, .inl (M 2))), (e 3, .inl (X.cI, 4207, .inl (M 3))), (e 4, .inl (X.cI, 2048, .inl (M 4))), (e 5, .inl (X.cI, 600, .inl (M 5)))]) C hiX6 tyX6_ok nmX6 0 4 rfl rfl (by decide) hf49 rfl rfl rfl (Nat.le_of_ble_eq_true rfl) dX6_remove_65 rfl rfl ?_
        refine z_iconst (q := 69) C k_iconst_3 dX6_remove_68 rfl ?_
        refine z_iload (q := 71) C 0 rfl dX6_remove_69 rfl ?_
        refine z_imul (q := 72) C dX6_remove_71 rfl ?_
        refine z_eqi (y := nI (3 * i)) (pk_mul 3 i) ?_
        refine z_istore (q := 74) (lv' := [(5, .int (nI (3 * i))), (4, .int (nI i)), (0, .ref hm), (1, .int s), (2, .int p), (3, .int o)]) C dX6_remove_72 rfl (by decide) rfl ?_
        refine z_lv [2, 3, 4, 5, 1, 0] rfl ?_
        exact l_X6_remove hm e M cd mb ak cnt k nl n m md fu hnl hcn GL hG s p o i hik2 hh hrm c8 C E (3 * k + 1) (3 * i) (M 0) (by omega) (by omega) (by omega) (fun r => by rw [if_neg (by omega)])
      · skip
        have hh : hasF GL s p o = false := by rcases hi with z | z; exact absurd z.1 (by omega); exact z.2
        refine z_aload_n (q := 43) C 1 rfl rfl dX6_remove_42 rfl ?_
        refine z_iload_n (q := 44) C 2 rfl rfl dX6_remove_43 rfl ?_
        refine z_iload_n (q := 45) C 3 rfl rfl dX6_remove_44 rfl ?_
        refine z_iload_n (q := 46) C 4 rfl rfl dX6_remove_45 rfl ?_
        refine z_callV (q := 49) (n := 3) (As := [.int s, .int p, .int o]) (rest := []) (wr := [(e 0, .inl (X.cI, 240, .inl (M 0))), (e 1, .inl (X.cI, 40, .inl (M 1))), (e 2, .inl (X.cI, 4200, .inl (M 2))), (e 3, .inl (X.cI, 4207, .inl (M 3))), (e 4, .inl (X.cI, 2048, .inl (M 4))), (e 5, .inl (X.cI, 600, .inl (M 5)))]) C (c_X6_isAxiom X.l X.D X.2.1 hm e M (nI 0) mb ak cnt k nl n m md fu hcn s p o) gX6_remove_X6_isAxiom rfl rfl rfl (by decide +kernel) (by decide) ⟨by first | decide | omega, by first | decide | omega⟩ 0 6 rfl rfl [0] [1, 2, 3, 4, 5, 6] rfl rfl (by decide) (by decide) (by decide) rfl rfl (Nat.le_of_ble_eq_true rfl) dX6_remove_46 rfl (fun v w1 hp => ?_)
        obtain ⟨rfl, rfl⟩ := hp
        show zW X 6 [(e 0, .inl (X.cI, 240, .inl (M 0))), (e 1, .inl (X.cI, 40, .inl (M 1))), (e 2, .inl (X.cI, 4200, .inl (M 2))), (e 3, .inl (X.cI, 4207, .inl (M 3))), (e 4, .inl (X.cI, 2048, .inl (M 4))), (e 5, .inl (X.cI, 600, .inl (M 5))), (hm, .inr (6, [.int (nI 0), .int (zb mb), .int (zb ak), .int (nI cnt), .int (nI k), .ref (e 0), .int (nI nl), .ref (e 1), .int (nI n), .ref (e 2), .int (nI m), .int (nI md), .ref (e 3), .ref (e 4), .int (zb fu), .ref (e 5)]))] _ _ 49 _ [.int (zb (axHas s p o (axSz mb ak cnt)))]
        refine z_ws (ws' := [(hm, .inr (6, [.int (nI 0), .int (zb mb), .int (zb ak), .int (nI cnt), .int (nI k), .ref (e 0), .int (nI nl), .ref (e 1), .int (nI n), .ref (e 2), .int (nI m), .int (nI md), .ref (e 3), .ref (e 4), .int (zb fu), .ref (e 5)])), (e 0, .inl (X.cI, 240, .inl (M 0))), (e 1, .inl (X.cI, 40, .inl (M 1))), (e 2, .inl (X.cI, 4200, .inl (M 2))), (e 3, .inl (X.cI, 4207, .inl (M 3))), (e 4, .inl (X.cI, 2048, .inl (M 4))), (e 5, .inl (X.cI, 600, .inl (M 5)))]) [6, 0, 1, 2, 3, 4, 5] (by decide) rfl ?_
        refine z_if_eq_b (q := 52) (tgt := 56) C dX6_remove_49 (by decide) rfl (fun c49 => ?_) (fun c49 => ?_)
        · skip
          refine z_iconst (q := 57) C k_iconst_0 dX6_remove_56 rfl ?_
          refine z_iret C E (by omega) (by omega) dX6_remove_57 ?_
          refine Or.inr ⟨by unfold cdRem; rw [if_neg (by rw [c8]; decide)], M 0, k, by rw [remL_none hh]; exact hG, ?_, rfl⟩
          unfold remV
          rw [if_neg (by rw [hh]; decide), if_neg (by rw [c49]; decide)]
        · skip
          refine z_iconst (q := 53) C k_iconst_2 dX6_remove_52 rfl ?_
          refine z_goto (tgt := 57) C dX6_remove_53 (by decide) ?_
          refine z_iret C E (by omega) (by omega) dX6_remove_57 ?_
          refine Or.inr ⟨by unfold cdRem; rw [if_neg (by rw [c8]; decide)], M 0, k, by rw [remL_none hh]; exact hG, ?_, rfl⟩
          unfold remV
          rw [if_neg (by rw [hh]; decide), if_pos c49]
    · skip
      exact absurd c19 (by decide)
