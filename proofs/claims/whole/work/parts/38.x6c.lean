set_option maxHeartbeats 4000000 in
set_option maxRecDepth 100000 in
theorem l_X6_slot {X : zX} (hm : Nat) (e : Nat → Nat) (M : Nat → Nat → Int32) (cd : Int32) (mb ak : Bool) (cnt k nl n m md : Nat) (fu : Bool) (a b c : Nat) (ha : a < 400) (hb : b < 400) (hc : c < 400) (hB : ∀ q, q < 2048 → M 4 q = nI 0 ∨ ∃ j, j < 600 ∧ M 4 q = nI (j + 1)) (d0 : Nat) (hd0 : d0 < 2048) (hfree : M 4 ((hM (nI a) (nI b) (nI c) + d0) % 2048) = nI 0) (C : zC X cX6_slot 5 RX6 wsX6_slot ({ frames := 0, cells := 0, slots := 0, locals := 0 } : Room)) (E : zE X (some .int) 0 0 (fun v w1 => ∃ d, d < 2048 ∧ (∀ g, g < d → mGo (M 3) (M 4) (nI a) (nI b) (nI c) g) ∧ mEnd (M 3) (M 4) (nI a) (nI b) (nI c) d ∧ v = some (.int (nI ((hM (nI a) (nI b) (nI c) + d) % 2048))) ∧ w1 = [(hm, .inr (6, [.int cd, .int (zb mb), .int (zb ak), .int (nI cnt), .int (nI k), .ref (e 0), .int (nI nl), .ref (e 1), .int (nI n), .ref (e 2), .int (nI m), .int (nI md), .ref (e 3), .ref (e 4), .int (zb fu), .ref (e 5)])), (e 3, .inl (X.cI, 4207, .inl (M 3))), (e 4, .inl (X.cI, 2048, .inl (M 4)))])) : ∀ (z : Nat) (d : Nat), d ≤ d0 → d0 < d + z → (∀ g, g < d → mGo (M 3) (M 4) (nI a) (nI b) (nI c) g) → zW X 5 [(hm, .inr (6, [.int cd, .int (zb mb), .int (zb ak), .int (nI cnt), .int (nI k), .ref (e 0), .int (nI nl), .ref (e 1), .int (nI n), .ref (e 2), .int (nI m), .int (nI md), .ref (e 3), .ref (e 4), .int (zb fu), .ref (e 5)])), (e 3, .inl (X.cI, 4207, .inl (M 3))), (e 4, .inl (X.cI, 2048, .inl (M 4)))] 0 0 19 [(0, .ref hm), (1, .int (nI a)), (2, .int (nI b)), (3, .int (nI c)), (4, .int (nI ((hM (nI a) (nI b) (nI c) + d) % 2048)))] [] := by
  have hiX6 : ∀ w ∈ u_ws RX6 TX6 16, w ∈ wsX6_slot := by decide +kernel
  have hf23 : Cond.fieldLink RX6 23 "RdfsRulesModel" "fresh" "[I" ∈ wsX6_slot := by decide +kernel
  have hf26 : Cond.fieldLink RX6 26 "RdfsRulesModel" "places" "[I" ∈ wsX6_slot := by decide +kernel
  intro z
  induction z with
  | zero =>
    intro d hd hz hgo
    exfalso
    omega
  | succ z ih =>
    intro d hd hz hgo
    refine z_aload_n (q := 20) C 0 rfl rfl dX6_slot_19 rfl ?_
    refine z_get (q := 23) (v := .ref (e 4)) C hiX6 0 13 rfl rfl (by decide) hf26 rfl dX6_slot_20 rfl ?_
    refine z_iload (q := 25) C 4 rfl dX6_slot_23 rfl ?_
    refine z_iald (q := 26) C 2 rfl (i := (hM (nI a) (nI b) (nI c) + d) % 2048) (by omega) (by decide) dX6_slot_25 rfl ?_
    rcases hB _ (show (hM (nI a) (nI b) (nI c) + d) % 2048 < 2048 by omega) with e0 | ⟨j, hj, ej⟩
    · skip
      refine z_eqi (y := nI 0) e0 ?_
      refine z_if_le_n (q := 29) (tgt := 107) C (by omega) dX6_slot_26 (by decide) rfl (fun c26 => ?_) (fun c26 => ?_)
      · skip
        refine z_iload (q := 109) C 4 rfl dX6_slot_107 rfl ?_
        refine z_iret C E (by omega) (by omega) dX6_slot_109 ?_
        exact ⟨d, by omega, hgo, Or.inl e0, rfl, rfl⟩
      · exact absurd c26 (by decide)
    · skip
      refine z_eqi (y := nI (j + 1)) ej ?_
      refine z_if_le_n (q := 29) (tgt := 107) C (by omega) dX6_slot_26 (by decide) rfl (fun c26 => ?_) (fun c26 => ?_)
      · skip
        exact absurd c26 (by omega)
      · skip
        refine z_aload_n (q := 30) C 0 rfl rfl dX6_slot_29 rfl ?_
        refine z_get (q := 33) (v := .ref (e 3)) C hiX6 0 12 rfl rfl (by decide) hf23 rfl dX6_slot_30 rfl ?_
        refine z_bipush (q := 35) C k_bipush_7 dX6_slot_33 rfl ?_
        refine z_aload_n (q := 36) C 0 rfl rfl dX6_slot_35 rfl ?_
        refine z_get (q := 39) (v := .ref (e 4)) C hiX6 0 13 rfl rfl (by decide) hf26 rfl dX6_slot_36 rfl ?_
        refine z_iload (q := 41) C 4 rfl dX6_slot_39 rfl ?_
        refine z_iald (q := 42) C 2 rfl (i := (hM (nI a) (nI b) (nI c) + d) % 2048) (by omega) (by decide) dX6_slot_41 rfl ?_
        refine z_eqi (y := nI (j + 1)) ej ?_
        refine z_imul (q := 43) C dX6_slot_42 rfl ?_
        refine z_eqi (y := nI (7 * (j + 1))) (pk_mul 7 (j + 1)) ?_
        refine z_bipush (q := 45) C k_bipush_7 dX6_slot_43 rfl ?_
        refine z_isub (q := 46) C dX6_slot_45 rfl ?_
        refine z_eqi (y := nI ((7 * (j + 1)) - 7)) (pk_sub (a := 7 * (j + 1)) (b := 7) (by omega)) ?_
        refine z_eqi (y := nI (7 * j)) (congrArg nI (by omega)) ?_
        refine z_iald (q := 47) C 1 rfl (i := 7 * j) (by omega) (by decide) dX6_slot_46 rfl ?_
        refine z_iload_n (q := 48) C 1 rfl rfl dX6_slot_47 rfl ?_
        refine z_icmp_ne (q := 51) (tgt := 94) C dX6_slot_48 (by decide) rfl (fun c48 => ?_) (fun c48 => ?_)
        · skip
          refine z_iload (q := 96) C 4 rfl dX6_slot_94 rfl ?_
          refine z_iconst (q := 97) C k_iconst_1 dX6_slot_96 rfl ?_
          refine z_iadd (q := 98) C dX6_slot_97 rfl ?_
          refine z_eqi (y := nI (((hM (nI a) (nI b) (nI c) + d) % 2048) + 1)) (nI_add ((hM (nI a) (nI b) (nI c) + d) % 2048) 1) ?_
          refine z_sipush (q := 101) C k_sipush_2048 dX6_slot_98 rfl ?_
          refine z_irem (q := 102) C (by decide) dX6_slot_101 rfl ?_
          refine z_eqi (y := nI ((((hM (nI a) (nI b) (nI c) + d) % 2048) + 1) % 2048)) (pk_rem (a := ((hM (nI a) (nI b) (nI c) + d) % 2048) + 1) (d := 2048) (by omega) (by omega) (by omega)) ?_
          refine z_eqi (y := nI ((hM (nI a) (nI b) (nI c) + (d + 1)) % 2048)) (congrArg nI (by omega)) ?_
          refine z_istore (q := 104) (lv' := [(4, .int (nI ((hM (nI a) (nI b) (nI c) + (d + 1)) % 2048))), (0, .ref hm), (1, .int (nI a)), (2, .int (nI b)), (3, .int (nI c))]) C dX6_slot_102 rfl (by decide) rfl ?_
          refine z_goto (tgt := 19) C dX6_slot_104 (by decide) ?_
          refine z_lv [1, 2, 3, 4, 0] rfl ?_
          have hdd : d ≠ d0 := fun e9 => nI_n0 hj (by rw [← ej, e9]; exact hfree)
          exact ih (d + 1) (by omega) (by omega) (fun g hg => by rcases Nat.lt_succ_iff_lt_or_eq.mp hg with h1 | h1; exact hgo g h1; exact h1 ▸ ⟨j, hj, ej, fun z => c48 z.1⟩)
        · skip
          refine z_aload_n (q := 52) C 0 rfl rfl dX6_slot_51 rfl ?_
          refine z_get (q := 55) (v := .ref (e 3)) C hiX6 0 12 rfl rfl (by decide) hf23 rfl dX6_slot_52 rfl ?_
          refine z_bipush (q := 57) C k_bipush_7 dX6_slot_55 rfl ?_
          refine z_aload_n (q := 58) C 0 rfl rfl dX6_slot_57 rfl ?_
          refine z_get (q := 61) (v := .ref (e 4)) C hiX6 0 13 rfl rfl (by decide) hf26 rfl dX6_slot_58 rfl ?_
          refine z_iload (q := 63) C 4 rfl dX6_slot_61 rfl ?_
          refine z_iald (q := 64) C 2 rfl (i := (hM (nI a) (nI b) (nI c) + d) % 2048) (by omega) (by decide) dX6_slot_63 rfl ?_
          refine z_eqi (y := nI (j + 1)) ej ?_
          refine z_imul (q := 65) C dX6_slot_64 rfl ?_
          refine z_eqi (y := nI (7 * (j + 1))) (pk_mul 7 (j + 1)) ?_
          refine z_bipush (q := 67) C k_bipush_6 dX6_slot_65 rfl ?_
          refine z_isub (q := 68) C dX6_slot_67 rfl ?_
          refine z_eqi (y := nI ((7 * (j + 1)) - 6)) (pk_sub (a := 7 * (j + 1)) (b := 6) (by omega)) ?_
          refine z_eqi (y := nI (7 * j + 1)) (congrArg nI (by omega)) ?_
          refine z_iald (q := 69) C 1 rfl (i := 7 * j + 1) (by omega) (by decide) dX6_slot_68 rfl ?_
          refine z_iload_n (q := 70) C 2 rfl rfl dX6_slot_69 rfl ?_
          refine z_icmp_ne (q := 73) (tgt := 94) C dX6_slot_70 (by decide) rfl (fun c70 => ?_) (fun c70 => ?_)
          · skip
            refine z_iload (q := 96) C 4 rfl dX6_slot_94 rfl ?_
            refine z_iconst (q := 97) C k_iconst_1 dX6_slot_96 rfl ?_
            refine z_iadd (q := 98) C dX6_slot_97 rfl ?_
            refine z_eqi (y := nI (((hM (nI a) (nI b) (nI c) + d) % 2048) + 1)) (nI_add ((hM (nI a) (nI b) (nI c) + d) % 2048) 1) ?_
            refine z_sipush (q := 101) C k_sipush_2048 dX6_slot_98 rfl ?_
            refine z_irem (q := 102) C (by decide) dX6_slot_101 rfl ?_
            refine z_eqi (y := nI ((((hM (nI a) (nI b) (nI c) + d) % 2048) + 1) % 2048)) (pk_rem (a := ((hM (nI a) (nI b) (nI c) + d) % 2048) + 1) (d := 2048) (by omega) (by omega) (by omega)) ?_
            refine z_eqi (y := nI ((hM (nI a) (nI b) (nI c) + (d + 1)) % 2048)) (congrArg nI (by omega)) ?_
            refine z_istore (q := 104) (lv' := [(4, .int (nI ((hM (nI a) (nI b) (nI c) + (d + 1)) % 2048))), (0, .ref hm), (1, .int (nI a)), (2, .int (nI b)), (3, .int (nI c))]) C dX6_slot_102 rfl (by decide) rfl ?_
            refine z_goto (tgt := 19) C dX6_slot_104 (by decide) ?_
            refine z_lv [1, 2, 3, 4, 0] rfl ?_
            have hdd : d ≠ d0 := fun e9 => nI_n0 hj (by rw [← ej, e9]; exact hfree)
            exact ih (d + 1) (by omega) (by omega) (fun g hg => by rcases Nat.lt_succ_iff_lt_or_eq.mp hg with h1 | h1; exact hgo g h1; exact h1 ▸ ⟨j, hj, ej, fun z => c70 z.2.1⟩)
          · skip
            refine z_aload_n (q := 74) C 0 rfl rfl dX6_slot_73 rfl ?_
            refine z_get (q := 77) (v := .ref (e 3)) C hiX6 0 12 rfl rfl (by decide) hf23 rfl dX6_slot_74 rfl ?_
            refine z_bipush (q := 79) C k_bipush_7 dX6_slot_77 rfl ?_
            refine z_aload_n (q := 80) C 0 rfl rfl dX6_slot_79 rfl ?_
            refine z_get (q := 83) (v := .ref (e 4)) C hiX6 0 13 rfl rfl (by decide) hf26 rfl dX6_slot_80 rfl ?_
            refine z_iload (q := 85) C 4 rfl dX6_slot_83 rfl ?_
            refine z_iald (q := 86) C 2 rfl (i := (hM (nI a) (nI b) (nI c) + d) % 2048) (by omega) (by decide) dX6_slot_85 rfl ?_
            refine z_eqi (y := nI (j + 1)) ej ?_
            refine z_imul (q := 87) C dX6_slot_86 rfl ?_
            refine z_eqi (y := nI (7 * (j + 1))) (pk_mul 7 (j + 1)) ?_
            refine z_iconst (q := 88) C k_iconst_5 dX6_slot_87 rfl ?_
            refine z_isub (q := 89) C dX6_slot_88 rfl ?_
            refine z_eqi (y := nI ((7 * (j + 1)) - 5)) (pk_sub (a := 7 * (j + 1)) (b := 5) (by omega)) ?_
            refine z_eqi (y := nI (7 * j + 2)) (congrArg nI (by omega)) ?_
            refine z_iald (q := 90) C 1 rfl (i := 7 * j + 2) (by omega) (by decide) dX6_slot_89 rfl ?_
            refine z_iload_n (q := 91) C 3 rfl rfl dX6_slot_90 rfl ?_
            refine z_icmp_eq (q := 94) (tgt := 107) C dX6_slot_91 (by decide) rfl (fun c91 => ?_) (fun c91 => ?_)
            · skip
              refine z_iload (q := 109) C 4 rfl dX6_slot_107 rfl ?_
              refine z_iret C E (by omega) (by omega) dX6_slot_109 ?_
              exact ⟨d, by omega, hgo, Or.inr ⟨j, hj, ej, c48, c70, c91⟩, rfl, rfl⟩
            · skip
              refine z_iload (q := 96) C 4 rfl dX6_slot_94 rfl ?_
              refine z_iconst (q := 97) C k_iconst_1 dX6_slot_96 rfl ?_
              refine z_iadd (q := 98) C dX6_slot_97 rfl ?_
              refine z_eqi (y := nI (((hM (nI a) (nI b) (nI c) + d) % 2048) + 1)) (nI_add ((hM (nI a) (nI b) (nI c) + d) % 2048) 1) ?_
              refine z_sipush (q := 101) C k_sipush_2048 dX6_slot_98 rfl ?_
              refine z_irem (q := 102) C (by decide) dX6_slot_101 rfl ?_
              refine z_eqi (y := nI ((((hM (nI a) (nI b) (nI c) + d) % 2048) + 1) % 2048)) (pk_rem (a := ((hM (nI a) (nI b) (nI c) + d) % 2048) + 1) (d := 2048) (by omega) (by omega) (by omega)) ?_
              refine z_eqi (y := nI ((hM (nI a) (nI b) (nI c) + (d + 1)) % 2048)) (congrArg nI (by omega)) ?_
              refine z_istore (q := 104) (lv' := [(4, .int (nI ((hM (nI a) (nI b) (nI c) + (d + 1)) % 2048))), (0, .ref hm), (1, .int (nI a)), (2, .int (nI b)), (3, .int (nI c))]) C dX6_slot_102 rfl (by decide) rfl ?_
              refine z_goto (tgt := 19) C dX6_slot_104 (by decide) ?_
              refine z_lv [1, 2, 3, 4, 0] rfl ?_
              have hdd : d ≠ d0 := fun e9 => nI_n0 hj (by rw [← ej, e9]; exact hfree)
              exact ih (d + 1) (by omega) (by omega) (fun g hg => by rcases Nat.lt_succ_iff_lt_or_eq.mp hg with h1 | h1; exact hgo g h1; exact h1 ▸ ⟨j, hj, ej, fun z => c91 z.2.2⟩)

set_option maxHeartbeats 4000000 in
set_option maxRecDepth 100000 in
theorem c_X6_slot (l : Launch) (D : va_G) (g : ClassId × ClassId × ClassId) (hm : Nat) (e : Nat → Nat) (M : Nat → Nat → Int32) (cd : Int32) (mb ak : Bool) (cnt k nl n m md : Nat) (fu : Bool) (a b c : Nat) (ha : a < 400) (hb : b < 400) (hc : c < 400) (hB : ∀ q, q < 2048 → M 4 q = nI 0 ∨ ∃ j, j < 600 ∧ M 4 q = nI (j + 1)) (hFr : ∃ d, d < 2048 ∧ M 4 ((hM (nI a) (nI b) (nI c) + d) % 2048) = nI 0) : zM l yX6_slot wsX6_slot ({ frames := 0, cells := 0, slots := 0, locals := 0 } : Room) D g [.ref hm, .int (nI a), .int (nI b), .int (nI c)] [(hm, .inr (6, [.int cd, .int (zb mb), .int (zb ak), .int (nI cnt), .int (nI k), .ref (e 0), .int (nI nl), .ref (e 1), .int (nI n), .ref (e 2), .int (nI m), .int (nI md), .ref (e 3), .ref (e 4), .int (zb fu), .ref (e 5)])), (e 3, .inl (g.1, 4207, .inl (M 3))), (e 4, .inl (g.1, 2048, .inl (M 4)))] 0 0 (fun v w1 => ∃ d, d < 2048 ∧ (∀ g, g < d → mGo (M 3) (M 4) (nI a) (nI b) (nI c) g) ∧ mEnd (M 3) (M 4) (nI a) (nI b) (nI c) d ∧ v = some (.int (nI ((hM (nI a) (nI b) (nI c) + d) % 2048))) ∧ w1 = [(hm, .inr (6, [.int cd, .int (zb mb), .int (zb ak), .int (nI cnt), .int (nI k), .ref (e 0), .int (nI nl), .ref (e 1), .int (nI n), .ref (e 2), .int (nI m), .int (nI md), .ref (e 3), .ref (e 4), .int (zb fu), .ref (e 5)])), (e 3, .inl (g.1, 4207, .inl (M 3))), (e 4, .inl (g.1, 2048, .inl (M 4)))]) := by
  refine z_met (cc := cX6_slot) (maxL := 5) (ret := (some .int)) (lv := [(0, .ref hm), (1, .int (nI a)), (2, .int (nI b)), (3, .int (nI c))]) (by decide) rfl (Nat.le_of_ble_eq_true rfl) rfl ?_
  intro X hXD hXg hXl hnm C E
  subst hXD hXg hXl
  have C : zC X cX6_slot 5 RX6 wsX6_slot ({ frames := 0, cells := 0, slots := 0, locals := 0 } : Room) := C
  refine z_sipush (q := 3) C k_sipush_400 dX6_slot_0 rfl ?_
  refine z_sipush (q := 6) C k_sipush_400 dX6_slot_3 rfl ?_
  refine z_iload_n (q := 7) C 1 rfl rfl dX6_slot_6 rfl ?_
  refine z_imul (q := 8) C dX6_slot_7 rfl ?_
  refine z_eqi (y := nI (400 * a)) (pk_mul 400 a) ?_
  refine z_iload_n (q := 9) C 2 rfl rfl dX6_slot_8 rfl ?_
  refine z_iadd (q := 10) C dX6_slot_9 rfl ?_
  refine z_eqi (y := nI ((400 * a) + b)) (nI_add (400 * a) b) ?_
  refine z_imul (q := 11) C dX6_slot_10 rfl ?_
  refine z_eqi (y := nI (400 * ((400 * a) + b))) (pk_mul 400 ((400 * a) + b)) ?_
  refine z_iload_n (q := 12) C 3 rfl rfl dX6_slot_11 rfl ?_
  refine z_iadd (q := 13) C dX6_slot_12 rfl ?_
  refine z_eqi (y := nI ((400 * ((400 * a) + b)) + c)) (nI_add (400 * ((400 * a) + b)) c) ?_
  refine z_sipush (q := 16) C k_sipush_2048 dX6_slot_13 rfl ?_
  refine z_irem (q := 17) C (by decide) dX6_slot_16 rfl ?_
  refine z_eqi (y := nI (((400 * ((400 * a) + b)) + c) % 2048)) (pk_rem (a := (400 * ((400 * a) + b)) + c) (d := 2048) (by omega) (by omega) (by omega)) ?_
  refine z_eqi (y := nI ((hM (nI a) (nI b) (nI c) + 0) % 2048)) (by unfold hM; rw [nI_tn (by omega), nI_tn (by omega), nI_tn (by omega)]; congr 1; omega) ?_
  refine z_istore (q := 19) (lv' := [(4, .int (nI ((hM (nI a) (nI b) (nI c) + 0) % 2048))), (0, .ref hm), (1, .int (nI a)), (2, .int (nI b)), (3, .int (nI c))]) C dX6_slot_17 rfl (by decide) rfl ?_
  refine z_lv [1, 2, 3, 4, 0] rfl ?_
  obtain ⟨d0, hd0, hfree⟩ := hFr
  exact l_X6_slot hm e M cd mb ak cnt k nl n m md fu a b c ha hb hc hB d0 hd0 hfree C E (d0 + 1) 0 (by omega) (by omega) (fun g hg => absurd hg (Nat.not_lt_zero g))

set_option maxHeartbeats 4000000 in
set_option maxRecDepth 100000 in
theorem c_X6_makes (l : Launch) (D : va_G) (g : ClassId × ClassId × ClassId) (hm : Nat) (e : Nat → Nat) (M : Nat → Nat → Int32) (cd : Int32) (mb ak : Bool) (cnt k nl n m md : Nat) (fu : Bool) (hnl : nl ≤ 40) (S : RSt) (hR : mRep (M 3) (M 4) md fu S) (s p o r f c d : Int32) (hs : tok nl s) (hp0 : tok nl p) (ho : tok nl o) : zM l yX6_makes wsX6_makes ({ frames := 1, cells := 0, slots := 0, locals := 24 } : Room) D g [.ref hm, .int s, .int p, .int o, .int r, .int f, .int c, .int d] [(hm, .inr (6, [.int cd, .int (zb mb), .int (zb ak), .int (nI cnt), .int (nI k), .ref (e 0), .int (nI nl), .ref (e 1), .int (nI n), .ref (e 2), .int (nI m), .int (nI md), .ref (e 3), .ref (e 4), .int (zb fu), .ref (e 5)])), (e 0, .inl (g.1, 240, .inl (M 0))), (e 1, .inl (g.1, 40, .inl (M 1))), (e 2, .inl (g.1, 4200, .inl (M 2))), (e 3, .inl (g.1, 4207, .inl (M 3))), (e 4, .inl (g.1, 2048, .inl (M 4))), (e 5, .inl (g.1, 600, .inl (M 5)))] 0 0 (fun v w1 => ∃ (f3 f4 : Nat → Int32) (md1 : Nat) (fu1 : Bool), mRep f3 f4 md1 fu1 (addR S (mkRow s p o r f c d)) ∧ v = none ∧ w1 = [(hm, .inr (6, [.int cd, .int (zb mb), .int (zb ak), .int (nI cnt), .int (nI k), .ref (e 0), .int (nI nl), .ref (e 1), .int (nI n), .ref (e 2), .int (nI m), .int (nI md1), .ref (e 3), .ref (e 4), .int (zb fu1), .ref (e 5)])), (e 0, .inl (g.1, 240, .inl (M 0))), (e 1, .inl (g.1, 40, .inl (M 1))), (e 2, .inl (g.1, 4200, .inl (M 2))), (e 3, .inl (g.1, 4207, .inl f3)), (e 4, .inl (g.1, 2048, .inl f4)), (e 5, .inl (g.1, 600, .inl (M 5)))]) := by
  refine z_met (cc := cX6_makes) (maxL := 10) (ret := none) (lv := [(0, .ref hm), (1, .int s), (2, .int p), (3, .int o), (4, .int r), (5, .int f), (6, .int c), (7, .int d)]) (by decide) rfl (Nat.le_of_ble_eq_true rfl) rfl ?_
  intro X hXD hXg hXl hnm C E
  subst hXD hXg hXl
  have C : zC X cX6_makes 10 RX6 wsX6_makes ({ frames := 1, cells := 0, slots := 0, locals := 24 } : Room) := C
  have hiX6 : ∀ w ∈ u_ws RX6 TX6 16, w ∈ wsX6_makes := by decide +kernel
  have hf23 : Cond.fieldLink RX6 23 "RdfsRulesModel" "fresh" "[I" ∈ wsX6_makes := by decide +kernel
  have hf26 : Cond.fieldLink RX6 26 "RdfsRulesModel" "places" "[I" ∈ wsX6_makes := by decide +kernel
  have hf85 : Cond.fieldLink RX6 85 "RdfsRulesModel" "full" "Z" ∈ wsX6_makes := by decide +kernel
  have hf91 : Cond.fieldLink RX6 91 "RdfsRulesModel" "made" "I" ∈ wsX6_makes := by decide +kernel
  have hn6 := hR.2.1
  obtain ⟨a, ha, rfl⟩ := hs
  obtain ⟨b, hb, rfl⟩ := hp0
  obtain ⟨c9, hc9, rfl⟩ := ho
  refine z_aload_n (q := 1) C 0 rfl rfl dX6_makes_0 rfl ?_
  refine z_get (q := 4) (v := .int (zb fu)) C hiX6 0 14 rfl rfl (by decide) hf85 rfl dX6_makes_1 rfl ?_
  refine z_if_eq_b (q := 7) (tgt := 11) C dX6_makes_4 (by decide) rfl (fun c4 => ?_) (fun c4 => ?_)
  · skip
    refine z_aload_n (q := 12) C 0 rfl rfl dX6_makes_11 rfl ?_
    refine z_iload_n (q := 13) C 1 rfl rfl dX6_makes_12 rfl ?_
    refine z_iload_n (q := 14) C 2 rfl rfl dX6_makes_13 rfl ?_
    refine z_iload_n (q := 15) C 3 rfl rfl dX6_makes_14 rfl ?_
    refine z_callV (q := 18) (n := 3) (As := [.int (nI a), .int (nI b), .int (nI c9)]) (rest := []) (wr := [(e 0, .inl (X.cI, 240, .inl (M 0))), (e 1, .inl (X.cI, 40, .inl (M 1))), (e 2, .inl (X.cI, 4200, .inl (M 2))), (e 5, .inl (X.cI, 600, .inl (M 5)))]) C (c_X6_slot X.l X.D X.2.1 hm e M cd mb ak cnt k nl n m md fu a b c9 (by omega) (by omega) (by omega) (hR.2.2.2.2.2.bd hR.2.1) (hR.2.2.2.2.2.free hR.2.1 _)) gX6_makes_X6_slot rfl rfl rfl (by decide +kernel) (by decide) ⟨by first | decide | omega, by first | decide | omega⟩ 0 6 rfl rfl [0, 4, 5] [1, 2, 3, 6] rfl rfl (by decide) (by decide) (by decide) rfl rfl (Nat.le_of_ble_eq_true rfl) dX6_makes_15 rfl (fun v w1 hp => ?_)
    obtain ⟨d0, hd0, hgo, hend, rfl, rfl⟩ := hp
    show zW X 10 [(e 0, .inl (X.cI, 240, .inl (M 0))), (e 1, .inl (X.cI, 40, .inl (M 1))), (e 2, .inl (X.cI, 4200, .inl (M 2))), (e 5, .inl (X.cI, 600, .inl (M 5))), (hm, .inr (6, [.int cd, .int (zb mb), .int (zb ak), .int (nI cnt), .int (nI k), .ref (e 0), .int (nI nl), .ref (e 1), .int (nI n), .ref (e 2), .int (nI m), .int (nI md), .ref (e 3), .ref (e 4), .int (zb fu), .ref (e 5)])), (e 3, .inl (X.cI, 4207, .inl (M 3))), (e 4, .inl (X.cI, 2048, .inl (M 4)))] _ _ 18 _ [.int (nI ((hM (nI a) (nI b) (nI c9) + d0) % 2048))]
    refine z_ws (ws' := [(hm, .inr (6, [.int cd, .int (zb mb), .int (zb ak), .int (nI cnt), .int (nI k), .ref (e 0), .int (nI nl), .ref (e 1), .int (nI n), .ref (e 2), .int (nI m), .int (nI md), .ref (e 3), .ref (e 4), .int (zb fu), .ref (e 5)])), (e 0, .inl (X.cI, 240, .inl (M 0))), (e 1, .inl (X.cI, 40, .inl (M 1))), (e 2, .inl (X.cI, 4200, .inl (M 2))), (e 3, .inl (X.cI, 4207, .inl (M 3))), (e 4, .inl (X.cI, 2048, .inl (M 4))), (e 5, .inl (X.cI, 600, .inl (M 5)))]) [4, 0, 1, 2, 5, 6, 3] (by decide) rfl ?_
    refine z_istore (q := 20) (lv' := [(8, .int (nI ((hM (nI a) (nI b) (nI c9) + d0) % 2048))), (0, .ref hm), (1, .int (nI a)), (2, .int (nI b)), (3, .int (nI c9)), (4, .int r), (5, .int f), (6, .int c), (7, .int d)]) C dX6_makes_18 rfl (by decide) rfl ?_
    refine z_aload_n (q := 21) C 1 rfl rfl dX6_makes_20 rfl ?_
    refine z_get (q := 24) (v := .int (zb fu)) C hiX6 0 14 rfl rfl (by decide) hf85 rfl dX6_makes_21 rfl ?_
    refine z_if_ne_b (q := 27) (tgt := 37) C dX6_makes_24 (by decide) rfl (fun c24 => ?_) (fun c24 => ?_)
    · skip
      exact absurd (c4.symm.trans c24) (by decide)
    · skip
      refine z_aload_n (q := 28) C 1 rfl rfl dX6_makes_27 rfl ?_
      refine z_get (q := 31) (v := .ref (e 4)) C hiX6 0 13 rfl rfl (by decide) hf26 rfl dX6_makes_28 rfl ?_
      refine z_iload (q := 33) C 0 rfl dX6_makes_31 rfl ?_
      refine z_iald (q := 34) C 5 rfl (i := (hM (nI a) (nI b) (nI c9) + d0) % 2048) (by omega) (by decide) dX6_makes_33 rfl ?_
      rcases hend with he | ⟨j, hj, ej, hmt⟩
      · skip
        refine z_eqi (y := nI 0) he ?_
        refine z_if_le_n (q := 37) (tgt := 38) C (by omega) dX6_makes_34 (by decide) rfl (fun c34 => ?_) (fun c34 => ?_)
        · skip
          refine z_aload_n (q := 39) C 1 rfl rfl dX6_makes_38 rfl ?_
          refine z_get (q := 42) (v := .int (nI md)) C hiX6 0 11 rfl rfl (by decide) hf91 rfl dX6_makes_39 rfl ?_
          refine z_sipush (q := 45) C k_sipush_600 dX6_makes_42 rfl ?_
          refine z_icmp_ne_n (q := 48) (tgt := 54) C (by omega) (by omega) dX6_makes_45 (by decide) rfl (fun c45 => ?_) (fun c45 => ?_)
          · skip
            refine z_bipush (q := 56) C k_bipush_7 dX6_makes_54 rfl ?_
            refine z_aload_n (q := 57) C 1 rfl rfl dX6_makes_56 rfl ?_
            refine z_get (q := 60) (v := .int (nI md)) C hiX6 0 11 rfl rfl (by decide) hf91 rfl dX6_makes_57 rfl ?_
            refine z_imul (q := 61) C dX6_makes_60 rfl ?_
            refine z_eqi (y := nI (7 * md)) (pk_mul 7 md) ?_
            refine z_istore (q := 63) (lv' := [(9, .int (nI (7 * md))), (8, .int (nI ((hM (nI a) (nI b) (nI c9) + d0) % 2048))), (0, .ref hm), (1, .int (nI a)), (2, .int (nI b)), (3, .int (nI c9)), (4, .int r), (5, .int f), (6, .int c), (7, .int d)]) C dX6_makes_61 rfl (by decide) rfl ?_
            refine z_aload_n (q := 64) C 2 rfl rfl dX6_makes_63 rfl ?_
            refine z_get (q := 67) (v := .ref (e 3)) C hiX6 0 12 rfl rfl (by decide) hf23 rfl dX6_makes_64 rfl ?_
            refine z_iload (q := 69) C 0 rfl dX6_makes_67 rfl ?_
            refine z_iload_n (q := 70) C 3 rfl rfl dX6_makes_69 rfl ?_
            refine z_iast (q := 71) (ws' := [(hm, .inr (6, [.int cd, .int (zb mb), .int (zb ak), .int (nI cnt), .int (nI k), .ref (e 0), .int (nI nl), .ref (e 1), .int (nI n), .ref (e 2), .int (nI m), .int (nI md), .ref (e 3), .ref (e 4), .int (zb fu), .ref (e 5)])), (e 0, .inl (X.cI, 240, .inl (M 0))), (e 1, .inl (X.cI, 40, .inl (M 1))), (e 2, .inl (X.cI, 4200, .inl (M 2))), (e 3, .inl (X.cI, 4207, .inl (upd (M 3) (7 * md) (nI a)))), (e 4, .inl (X.cI, 2048, .inl (M 4))), (e 5, .inl (X.cI, 600, .inl (M 5)))]) C 4 rfl (i := 7 * md) (by omega) (by decide) dX6_makes_70 rfl rfl ?_
            refine z_aload_n (q := 72) C 2 rfl rfl dX6_makes_71 rfl ?_
            refine z_get (q := 75) (v := .ref (e 3)) C hiX6 0 12 rfl rfl (by decide) hf23 rfl dX6_makes_72 rfl ?_
            refine z_iload (q := 77) C 0 rfl dX6_makes_75 rfl ?_
            refine z_iconst (q := 78) C k_iconst_1 dX6_makes_77 rfl ?_
            refine z_iadd (q := 79) C dX6_makes_78 rfl ?_
            refine z_eqi (y := nI ((7 * md) + 1)) (nI_add (7 * md) 1) ?_
            refine z_iload_n (q := 80) C 4 rfl rfl dX6_makes_79 rfl ?_
            refine z_iast (q := 81) (ws' := [(hm, .inr (6, [.int cd, .int (zb mb), .int (zb ak), .int (nI cnt), .int (nI k), .ref (e 0), .int (nI nl), .ref (e 1), .int (nI n), .ref (e 2), .int (nI m), .int (nI md), .ref (e 3), .ref (e 4), .int (zb fu), .ref (e 5)])), (e 0, .inl (X.cI, 240, .inl (M 0))), (e 1, .inl (X.cI, 40, .inl (M 1))), (e 2, .inl (X.cI, 4200, .inl (M 2))), (e 3, .inl (X.cI, 4207, .inl (upd (upd (M 3) (7 * md) (nI a)) ((7 * md) + 1) (nI b)))), (e 4, .inl (X.cI, 2048, .inl (M 4))), (e 5, .inl (X.cI, 600, .inl (M 5)))]) C 4 rfl (i := (7 * md) + 1) (by omega) (by decide) dX6_makes_80 rfl rfl ?_
            refine z_aload_n (q := 82) C 2 rfl rfl dX6_makes_81 rfl ?_
            refine z_get (q := 85) (v := .ref (e 3)) C hiX6 0 12 rfl rfl (by decide) hf23 rfl dX6_makes_82 rfl ?_
            refine z_iload (q := 87) C 0 rfl dX6_makes_85 rfl ?_
            refine z_iconst (q := 88) C k_iconst_2 dX6_makes_87 rfl ?_
            refine z_iadd (q := 89) C dX6_makes_88 rfl ?_
            refine z_eqi (y := nI ((7 * md) + 2)) (nI_add (7 * md) 2) ?_
            refine z_iload_n (q := 90) C 5 rfl rfl dX6_makes_89 rfl ?_
            refine z_iast (q := 91) (ws' := [(hm, .inr (6, [.int cd, .int (zb mb), .int (zb ak), .int (nI cnt), .int (nI k), .ref (e 0), .int (nI nl), .ref (e 1), .int (nI n), .ref (e 2), .int (nI m), .int (nI md), .ref (e 3), .ref (e 4), .int (zb fu), .ref (e 5)])), (e 0, .inl (X.cI, 240, .inl (M 0))), (e 1, .inl (X.cI, 40, .inl (M 1))), (e 2, .inl (X.cI, 4200, .inl (M 2))), (e 3, .inl (X.cI, 4207, .inl (upd (upd (upd (M 3) (7 * md) (nI a)) ((7 * md) + 1) (nI b)) ((7 * md) + 2) (nI c9)))), (e 4, .inl (X.cI, 2048, .inl (M 4))), (e 5, .inl (X.cI, 600, .inl (M 5)))]) C 4 rfl (i := (7 * md) + 2) (by omega) (by decide) dX6_makes_90 rfl rfl ?_
            refine z_aload_n (q := 92) C 2 rfl rfl dX6_makes_91 rfl ?_
            refine z_get (q := 95) (v := .ref (e 3)) C hiX6 0 12 rfl rfl (by decide) hf23 rfl dX6_makes_92 rfl ?_
            refine z_iload (q := 97) C 0 rfl dX6_makes_95 rfl ?_
            refine z_iconst (q := 98) C k_iconst_3 dX6_makes_97 rfl ?_
            refine z_iadd (q := 99) C dX6_makes_98 rfl ?_
            refine z_eqi (y := nI ((7 * md) + 3)) (nI_add (7 * md) 3) ?_
            refine z_iload (q := 101) C 6 rfl dX6_makes_99 rfl ?_
            refine z_iast (q := 102) (ws' := [(hm, .inr (6, [.int cd, .int (zb mb), .int (zb ak), .int (nI cnt), .int (nI k), .ref (e 0), .int (nI nl), .ref (e 1), .int (nI n), .ref (e 2), .int (nI m), .int (nI md), .ref (e 3), .ref (e 4), .int (zb fu), .ref (e 5)])), (e 0, .inl (X.cI, 240, .inl (M 0))), (e 1, .inl (X.cI, 40, .inl (M 1))), (e 2, .inl (X.cI, 4200, .inl (M 2))), (e 3, .inl (X.cI, 4207, .inl (upd (upd (upd (upd (M 3) (7 * md) (nI a)) ((7 * md) + 1) (nI b)) ((7 * md) + 2) (nI c9)) ((7 * md) + 3) r))), (e 4, .inl (X.cI, 2048, .inl (M 4))), (e 5, .inl (X.cI, 600, .inl (M 5)))]) C 4 rfl (i := (7 * md) + 3) (by omega) (by decide) dX6_makes_101 rfl rfl ?_
            refine z_aload_n (q := 103) C 2 rfl rfl dX6_makes_102 rfl ?_
            refine z_get (q := 106) (v := .ref (e 3)) C hiX6 0 12 rfl rfl (by decide) hf23 rfl dX6_makes_103 rfl ?_
            refine z_iload (q := 108) C 0 rfl dX6_makes_106 rfl ?_
            refine z_iconst (q := 109) C k_iconst_4 dX6_makes_108 rfl ?_
            refine z_iadd (q := 110) C dX6_makes_109 rfl ?_
            refine z_eqi (y := nI ((7 * md) + 4)) (nI_add (7 * md) 4) ?_
            refine z_iload (q := 112) C 7 rfl dX6_makes_110 rfl ?_
            refine z_iast (q := 113) (ws' := [(hm, .inr (6, [.int cd, .int (zb mb), .int (zb ak), .int (nI cnt), .int (nI k), .ref (e 0), .int (nI nl), .ref (e 1), .int (nI n), .ref (e 2), .int (nI m), .int (nI md), .ref (e 3), .ref (e 4), .int (zb fu), .ref (e 5)])), (e 0, .inl (X.cI, 240, .inl (M 0))), (e 1, .inl (X.cI, 40, .inl (M 1))), (e 2, .inl (X.cI, 4200, .inl (M 2))), (e 3, .inl (X.cI, 4207, .inl (upd (upd (upd (upd (upd (M 3) (7 * md) (nI a)) ((7 * md) + 1) (nI b)) ((7 * md) + 2) (nI c9)) ((7 * md) + 3) r) ((7 * md) + 4) f))), (e 4, .inl (X.cI, 2048, .inl (M 4))), (e 5, .inl (X.cI, 600, .inl (M 5)))]) C 4 rfl (i := (7 * md) + 4) (by omega) (by decide) dX6_makes_112 rfl rfl ?_
            refine z_aload_n (q := 114) C 2 rfl rfl dX6_makes_113 rfl ?_
            refine z_get (q := 117) (v := .ref (e 3)) C hiX6 0 12 rfl rfl (by decide) hf23 rfl dX6_makes_114 rfl ?_
            refine z_iload (q := 119) C 0 rfl dX6_makes_117 rfl ?_
            refine z_iconst (q := 120) C k_iconst_5 dX6_makes_119 rfl ?_
            refine z_iadd (q := 121) C dX6_makes_120 rfl ?_
            refine z_eqi (y := nI ((7 * md) + 5)) (nI_add (7 * md) 5) ?_
            refine z_iload (q := 123) C 8 rfl dX6_makes_121 rfl ?_
            refine z_iast (q := 124) (ws' := [(hm, .inr (6, [.int cd, .int (zb mb), .int (zb ak), .int (nI cnt), .int (nI k), .ref (e 0), .int (nI nl), .ref (e 1), .int (nI n), .ref (e 2), .int (nI m), .int (nI md), .ref (e 3), .ref (e 4), .int (zb fu), .ref (e 5)])), (e 0, .inl (X.cI, 240, .inl (M 0))), (e 1, .inl (X.cI, 40, .inl (M 1))), (e 2, .inl (X.cI, 4200, .inl (M 2))), (e 3, .inl (X.cI, 4207, .inl (upd (upd (upd (upd (upd (upd (M 3) (7 * md) (nI a)) ((7 * md) + 1) (nI b)) ((7 * md) + 2) (nI c9)) ((7 * md) + 3) r) ((7 * md) + 4) f) ((7 * md) + 5) c))), (e 4, .inl (X.cI, 2048, .inl (M 4))), (e 5, .inl (X.cI, 600, .inl (M 5)))]) C 4 rfl (i := (7 * md) + 5) (by omega) (by decide) dX6_makes_123 rfl rfl ?_
            refine z_aload_n (q := 125) C 2 rfl rfl dX6_makes_124 rfl ?_
            refine z_get (q := 128) (v := .ref (e 3)) C hiX6 0 12 rfl rfl (by decide) hf23 rfl dX6_makes_125 rfl ?_
            refine z_iload (q := 130) C 0 rfl dX6_makes_128 rfl ?_
            refine z_bipush (q := 132) C k_bipush_6 dX6_makes_130 rfl ?_
            refine z_iadd (q := 133) C dX6_makes_132 rfl ?_
            refine z_eqi (y := nI ((7 * md) + 6)) (nI_add (7 * md) 6) ?_
            refine z_iload (q := 135) C 9 rfl dX6_makes_133 rfl ?_
            refine z_iast (q := 136) (ws' := [(hm, .inr (6, [.int cd, .int (zb mb), .int (zb ak), .int (nI cnt), .int (nI k), .ref (e 0), .int (nI nl), .ref (e 1), .int (nI n), .ref (e 2), .int (nI m), .int (nI md), .ref (e 3), .ref (e 4), .int (zb fu), .ref (e 5)])), (e 0, .inl (X.cI, 240, .inl (M 0))), (e 1, .inl (X.cI, 40, .inl (M 1))), (e 2, .inl (X.cI, 4200, .inl (M 2))), (e 3, .inl (X.cI, 4207, .inl (upd (upd (upd (upd (upd (upd (upd (M 3) (7 * md) (nI a)) ((7 * md) + 1) (nI b)) ((7 * md) + 2) (nI c9)) ((7 * md) + 3) r) ((7 * md) + 4) f) ((7 * md) + 5) c) ((7 * md) + 6) d))), (e 4, .inl (X.cI, 2048, .inl (M 4))), (e 5, .inl (X.cI, 600, .inl (M 5)))]) C 4 rfl (i := (7 * md) + 6) (by omega) (by decide) dX6_makes_135 rfl rfl ?_
            refine z_aload_n (q := 137) C 2 rfl rfl dX6_makes_136 rfl ?_
            refine z_dup (q := 138) C rfl dX6_makes_137 rfl ?_
            refine z_get (q := 141) (v := .int (nI md)) C hiX6 0 11 rfl rfl (by decide) hf91 rfl dX6_makes_138 rfl ?_
            refine z_iconst (q := 142) C k_iconst_1 dX6_makes_141 rfl ?_
            refine z_iadd (q := 143) C dX6_makes_142 rfl ?_
            refine z_eqi (y := nI (md + 1)) (nI_add md 1) ?_
            refine z_put (q := 146) (ws' := [(hm, .inr (6, [.int cd, .int (zb mb), .int (zb ak), .int (nI cnt), .int (nI k), .ref (e 0), .int (nI nl), .ref (e 1), .int (nI n), .ref (e 2), .int (nI m), .int (nI (md + 1)), .ref (e 3), .ref (e 4), .int (zb fu), .ref (e 5)])), (e 0, .inl (X.cI, 240, .inl (M 0))), (e 1, .inl (X.cI, 40, .inl (M 1))), (e 2, .inl (X.cI, 4200, .inl (M 2))), (e 3, .inl (X.cI, 4207, .inl (upd (upd (upd (upd (upd (upd (upd (M 3) (7 * md) (nI a)) ((7 * md) + 1) (nI b)) ((7 * md) + 2) (nI c9)) ((7 * md) + 3) r) ((7 * md) + 4) f) ((7 * md) + 5) c) ((7 * md) + 6) d))), (e 4, .inl (X.cI, 2048, .inl (M 4))), (e 5, .inl (X.cI, 600, .inl (M 5)))]) C hiX6 tyX6_ok nmX6 0 11 rfl rfl (by decide) hf91 rfl rfl rfl (Nat.le_of_ble_eq_true rfl) dX6_makes_143 rfl rfl ?_
            refine z_aload_n (q := 147) C 2 rfl rfl dX6_makes_146 rfl ?_
            refine z_get (q := 150) (v := .ref (e 4)) C hiX6 0 13 rfl rfl (by decide) hf26 rfl dX6_makes_147 rfl ?_
            refine z_iload (q := 152) C 1 rfl dX6_makes_150 rfl ?_
            refine z_aload_n (q := 153) C 2 rfl rfl dX6_makes_152 rfl ?_
            refine z_get (q := 156) (v := .int (nI (md + 1))) C hiX6 0 11 rfl rfl (by decide) hf91 rfl dX6_makes_153 rfl ?_
            refine z_iast (q := 157) (ws' := [(hm, .inr (6, [.int cd, .int (zb mb), .int (zb ak), .int (nI cnt), .int (nI k), .ref (e 0), .int (nI nl), .ref (e 1), .int (nI n), .ref (e 2), .int (nI m), .int (nI (md + 1)), .ref (e 3), .ref (e 4), .int (zb fu), .ref (e 5)])), (e 0, .inl (X.cI, 240, .inl (M 0))), (e 1, .inl (X.cI, 40, .inl (M 1))), (e 2, .inl (X.cI, 4200, .inl (M 2))), (e 3, .inl (X.cI, 4207, .inl (upd (upd (upd (upd (upd (upd (upd (M 3) (7 * md) (nI a)) ((7 * md) + 1) (nI b)) ((7 * md) + 2) (nI c9)) ((7 * md) + 3) r) ((7 * md) + 4) f) ((7 * md) + 5) c) ((7 * md) + 6) d))), (e 4, .inl (X.cI, 2048, .inl (upd (M 4) ((hM (nI a) (nI b) (nI c9) + d0) % 2048) (nI (md + 1))))), (e 5, .inl (X.cI, 600, .inl (M 5)))]) C 5 rfl (i := (hM (nI a) (nI b) (nI c9) + d0) % 2048) (by omega) (by decide) dX6_makes_156 rfl rfl ?_
            refine z_vret C E (by omega) (by omega) dX6_makes_157 ?_
            subst c24
            exact ⟨addFr (M 3) md (nI a) (nI b) (nI c9) r f c d, upd (M 4) ((hM (nI a) (nI b) (nI c9) + d0) % 2048) (nI (md + 1)), md + 1, false, hR.add (by omega) hd0 hgo he, rfl, rfl⟩
          · skip
            refine z_aload_n (q := 49) C 1 rfl rfl dX6_makes_48 rfl ?_
            refine z_iconst (q := 50) C k_iconst_1 dX6_makes_49 rfl ?_
            refine z_put (q := 53) (ws' := [(hm, .inr (6, [.int cd, .int (zb mb), .int (zb ak), .int (nI cnt), .int (nI k), .ref (e 0), .int (nI nl), .ref (e 1), .int (nI n), .ref (e 2), .int (nI m), .int (nI md), .ref (e 3), .ref (e 4), .int (nI 1), .ref (e 5)])), (e 0, .inl (X.cI, 240, .inl (M 0))), (e 1, .inl (X.cI, 40, .inl (M 1))), (e 2, .inl (X.cI, 4200, .inl (M 2))), (e 3, .inl (X.cI, 4207, .inl (M 3))), (e 4, .inl (X.cI, 2048, .inl (M 4))), (e 5, .inl (X.cI, 600, .inl (M 5)))]) C hiX6 tyX6_ok nmX6 0 14 rfl rfl (by decide) hf85 rfl (by decide) (by decide) (Nat.le_of_ble_eq_true rfl) dX6_makes_50 rfl rfl ?_
            refine z_vret C E (by omega) (by omega) dX6_makes_53 ?_
            subst c24
            exact ⟨M 3, M 4, md, true, hR.full c45 hgo he, rfl, rfl⟩
        · exact absurd c34 (by decide)
      · skip
        refine z_eqi (y := nI (j + 1)) ej ?_
        refine z_if_le_n (q := 37) (tgt := 38) C (by omega) dX6_makes_34 (by decide) rfl (fun c34 => ?_) (fun c34 => ?_)
        · skip
          exact absurd c34 (by omega)
        · skip
          refine z_vret C E (by omega) (by omega) dX6_makes_37 ?_
          exact ⟨M 3, M 4, md, fu, hR.same (by omega) hj ej hmt, rfl, rfl⟩
  · skip
    refine z_iconst (q := 8) C k_iconst_0 dX6_makes_7 rfl ?_
    refine z_goto (tgt := 18) C dX6_makes_8 (by decide) ?_
    refine z_istore (q := 20) (lv' := [(8, .int (nI 0)), (0, .ref hm), (1, .int (nI a)), (2, .int (nI b)), (3, .int (nI c9)), (4, .int r), (5, .int f), (6, .int c), (7, .int d)]) C dX6_makes_18 rfl (by decide) rfl ?_
    refine z_aload_n (q := 21) C 1 rfl rfl dX6_makes_20 rfl ?_
    refine z_get (q := 24) (v := .int (zb fu)) C hiX6 0 14 rfl rfl (by decide) hf85 rfl dX6_makes_21 rfl ?_
    refine z_if_ne_b (q := 27) (tgt := 37) C dX6_makes_24 (by decide) rfl (fun c24 => ?_) (fun c24 => ?_)
    · skip
      refine z_vret C E (by omega) (by omega) dX6_makes_37 ?_
      subst c24
      exact ⟨M 3, M 4, md, true, hR.fullno, rfl, rfl⟩
    · skip
      exact absurd (c4.symm.trans c24) (by decide)


set_option maxHeartbeats 4000000 in
set_option maxRecDepth 100000 in
theorem c_X6_firstOf (l : Launch) (D : va_G) (g : ClassId × ClassId × ClassId) (rule : Nat) (hru : rule = 0 ∨ rule = 1 ∨ rule = 2 ∨ rule = 3 ∨ rule = 4 ∨ rule = 5 ∨ rule = 6 ∨ rule = 7 ∨ rule = 8 ∨ rule = 9 ∨ rule = 10 ∨ rule = 11 ∨ rule = 12 ∨ rule = 13) : zM l yX6_firstOf wsX6_firstOf ({ frames := 0, cells := 0, slots := 0, locals := 0 } : Room) D g [.int (nI rule)] [] 0 0 (fun v w1 => v = some (.int (firstP rule)) ∧ w1 = []) := by
  refine z_met (cc := cX6_firstOf) (maxL := 1) (ret := (some .int)) (lv := [(0, .int (nI rule))]) (by decide) rfl (Nat.le_of_ble_eq_true rfl) rfl ?_
  intro X hXD hXg hXl hnm C E
  subst hXD hXg hXl
  have C : zC X cX6_firstOf 1 RX6 wsX6_firstOf ({ frames := 0, cells := 0, slots := 0, locals := 0 } : Room) := C
  rcases hru with rfl | rfl | rfl | rfl | rfl | rfl | rfl | rfl | rfl | rfl | rfl | rfl | rfl | rfl
  · skip
    refine z_iload_n (q := 1) C 0 rfl rfl dX6_firstOf_0 rfl ?_
    refine z_tableOut (tgt := 66) C dX6_firstOf_1 (by decide) (by decide) ?_
    refine z_iconst (q := 67) C k_iconst_m1 dX6_firstOf_66 rfl ?_
    refine z_iret C E (by omega) (by omega) dX6_firstOf_67 ?_
    exact ⟨rfl, rfl⟩
  · skip
    refine z_iload_n (q := 1) C 0 rfl rfl dX6_firstOf_0 rfl ?_
    refine z_tableOut (tgt := 66) C dX6_firstOf_1 (by decide) (by decide) ?_
    refine z_iconst (q := 67) C k_iconst_m1 dX6_firstOf_66 rfl ?_
    refine z_iret C E (by omega) (by omega) dX6_firstOf_67 ?_
    exact ⟨rfl, rfl⟩
  · skip
    refine z_iload_n (q := 1) C 0 rfl rfl dX6_firstOf_0 rfl ?_
    refine z_tableIn (off := 55) (tgt := 56) C dX6_firstOf_1 (by decide) (by decide) (by decide) (by decide) ?_
    refine z_bipush (q := 58) C k_bipush_6 dX6_firstOf_56 rfl ?_
    refine z_iret C E (by omega) (by omega) dX6_firstOf_58 ?_
    exact ⟨rfl, rfl⟩
  · skip
    refine z_iload_n (q := 1) C 0 rfl rfl dX6_firstOf_0 rfl ?_
    refine z_tableIn (off := 58) (tgt := 59) C dX6_firstOf_1 (by decide) (by decide) (by decide) (by decide) ?_
    refine z_bipush (q := 61) C k_bipush_7 dX6_firstOf_59 rfl ?_
    refine z_iret C E (by omega) (by omega) dX6_firstOf_61 ?_
    exact ⟨rfl, rfl⟩
  · skip
    refine z_iload_n (q := 1) C 0 rfl rfl dX6_firstOf_0 rfl ?_
    refine z_tableIn (off := 65) (tgt := 66) C dX6_firstOf_1 (by decide) (by decide) (by decide) (by decide) ?_
    refine z_iconst (q := 67) C k_iconst_m1 dX6_firstOf_66 rfl ?_
    refine z_iret C E (by omega) (by omega) dX6_firstOf_67 ?_
    exact ⟨rfl, rfl⟩
  · skip
    refine z_iload_n (q := 1) C 0 rfl rfl dX6_firstOf_0 rfl ?_
    refine z_tableIn (off := 61) (tgt := 62) C dX6_firstOf_1 (by decide) (by decide) (by decide) (by decide) ?_
    refine z_iconst (q := 63) C k_iconst_5 dX6_firstOf_62 rfl ?_
    refine z_iret C E (by omega) (by omega) dX6_firstOf_63 ?_
    exact ⟨rfl, rfl⟩
  · skip
    refine z_iload_n (q := 1) C 0 rfl rfl dX6_firstOf_0 rfl ?_
    refine z_tableIn (off := 65) (tgt := 66) C dX6_firstOf_1 (by decide) (by decide) (by decide) (by decide) ?_
    refine z_iconst (q := 67) C k_iconst_m1 dX6_firstOf_66 rfl ?_
    refine z_iret C E (by omega) (by omega) dX6_firstOf_67 ?_
    exact ⟨rfl, rfl⟩
  · skip
    refine z_iload_n (q := 1) C 0 rfl rfl dX6_firstOf_0 rfl ?_
    refine z_tableIn (off := 61) (tgt := 62) C dX6_firstOf_1 (by decide) (by decide) (by decide) (by decide) ?_
    refine z_iconst (q := 63) C k_iconst_5 dX6_firstOf_62 rfl ?_
    refine z_iret C E (by omega) (by omega) dX6_firstOf_63 ?_
    exact ⟨rfl, rfl⟩
  · skip
    refine z_iload_n (q := 1) C 0 rfl rfl dX6_firstOf_0 rfl ?_
    refine z_tableIn (off := 65) (tgt := 66) C dX6_firstOf_1 (by decide) (by decide) (by decide) (by decide) ?_
    refine z_iconst (q := 67) C k_iconst_m1 dX6_firstOf_66 rfl ?_
    refine z_iret C E (by omega) (by omega) dX6_firstOf_67 ?_
    exact ⟨rfl, rfl⟩
  · skip
    refine z_iload_n (q := 1) C 0 rfl rfl dX6_firstOf_0 rfl ?_
    refine z_tableIn (off := 63) (tgt := 64) C dX6_firstOf_1 (by decide) (by decide) (by decide) (by decide) ?_
    refine z_iconst (q := 65) C k_iconst_4 dX6_firstOf_64 rfl ?_
    refine z_iret C E (by omega) (by omega) dX6_firstOf_65 ?_
    exact ⟨rfl, rfl⟩
  · skip
    refine z_iload_n (q := 1) C 0 rfl rfl dX6_firstOf_0 rfl ?_
    refine z_tableIn (off := 65) (tgt := 66) C dX6_firstOf_1 (by decide) (by decide) (by decide) (by decide) ?_
    refine z_iconst (q := 67) C k_iconst_m1 dX6_firstOf_66 rfl ?_
    refine z_iret C E (by omega) (by omega) dX6_firstOf_67 ?_
    exact ⟨rfl, rfl⟩
  · skip
    refine z_iload_n (q := 1) C 0 rfl rfl dX6_firstOf_0 rfl ?_
    refine z_tableIn (off := 63) (tgt := 64) C dX6_firstOf_1 (by decide) (by decide) (by decide) (by decide) ?_
    refine z_iconst (q := 65) C k_iconst_4 dX6_firstOf_64 rfl ?_
    refine z_iret C E (by omega) (by omega) dX6_firstOf_65 ?_
    exact ⟨rfl, rfl⟩
  · skip
    refine z_iload_n (q := 1) C 0 rfl rfl dX6_firstOf_0 rfl ?_
    refine z_tableOut (tgt := 66) C dX6_firstOf_1 (by decide) (by decide) ?_
    refine z_iconst (q := 67) C k_iconst_m1 dX6_firstOf_66 rfl ?_
    refine z_iret C E (by omega) (by omega) dX6_firstOf_67 ?_
    exact ⟨rfl, rfl⟩
  · skip
    refine z_iload_n (q := 1) C 0 rfl rfl dX6_firstOf_0 rfl ?_
    refine z_tableOut (tgt := 66) C dX6_firstOf_1 (by decide) (by decide) ?_
    refine z_iconst (q := 67) C k_iconst_m1 dX6_firstOf_66 rfl ?_
    refine z_iret C E (by omega) (by omega) dX6_firstOf_67 ?_
    exact ⟨rfl, rfl⟩

theorem tok.lit {nl : Nat} {x : Int32} (h : tok nl x) (hn : nl ≤ 40) : x.toInt < 300 + (nl : Int) ∧ 0 ≤ x.toInt := by
  obtain ⟨a, ha, rfl⟩ := h
  rw [nI_toInt (by omega)]
  omega

def setM (M : Nat → Nat → Int32) (f3 f4 : Nat → Int32) : Nat → Nat → Int32 := fun k => match k with
  | 3 => f3
  | 4 => f4
  | q => M q

set_option maxHeartbeats 4000000 in
set_option maxRecDepth 100000 in
theorem c_X6_ofOne (l : Launch) (D : va_G) (g : ClassId × ClassId × ClassId) (hm : Nat) (e : Nat → Nat) (M : Nat → Nat → Int32) (cd : Int32) (mb ak : Bool) (cnt k nl n m md : Nat) (fu : Bool) (hnl : nl ≤ 40) (hf : ∀ j, j < nl → tok nl (M 1 j)) (S : RSt) (hR : mRep (M 3) (M 4) md fu S) (rule i : Nat) (rd : Int32) (hi : i < md) (hT : TOK nl S.1) (hru : rule = 0 ∨ rule = 1 ∨ rule = 4 ∨ rule = 6 ∨ rule = 8 ∨ rule = 10 ∨ rule = 12 ∨ rule = 13) : zM l yX6_ofOne wsX6_ofOne ({ frames := 2, cells := 0, slots := 0, locals := 53 } : Room) D g [.ref hm, .int (nI rule), .int (nI i), .int rd] [(hm, .inr (6, [.int cd, .int (zb mb), .int (zb ak), .int (nI cnt), .int (nI k), .ref (e 0), .int (nI nl), .ref (e 1), .int (nI n), .ref (e 2), .int (nI m), .int (nI md), .ref (e 3), .ref (e 4), .int (zb fu), .ref (e 5)])), (e 0, .inl (g.1, 240, .inl (M 0))), (e 1, .inl (g.1, 40, .inl (M 1))), (e 2, .inl (g.1, 4200, .inl (M 2))), (e 3, .inl (g.1, 4207, .inl (M 3))), (e 4, .inl (g.1, 2048, .inl (M 4))), (e 5, .inl (g.1, 600, .inl (M 5)))] 0 0 (fun v w1 => ∃ (f3 f4 : Nat → Int32) (md1 : Nat) (fu1 : Bool), mRep f3 f4 md1 fu1 (addL S rule (nI i) (-1) rd (oneL nl (M 1) rule (M 3 (7 * i)) (M 3 (7 * i + 1)) (M 3 (7 * i + 2)))) ∧ v = none ∧ w1 = [(hm, .inr (6, [.int cd, .int (zb mb), .int (zb ak), .int (nI cnt), .int (nI k), .ref (e 0), .int (nI nl), .ref (e 1), .int (nI n), .ref (e 2), .int (nI m), .int (nI md1), .ref (e 3), .ref (e 4), .int (zb fu1), .ref (e 5)])), (e 0, .inl (g.1, 240, .inl (M 0))), (e 1, .inl (g.1, 40, .inl (M 1))), (e 2, .inl (g.1, 4200, .inl (M 2))), (e 3, .inl (g.1, 4207, .inl f3)), (e 4, .inl (g.1, 2048, .inl f4)), (e 5, .inl (g.1, 600, .inl (M 5)))]) := by
  refine z_met (cc := cX6_ofOne) (maxL := 8) (ret := none) (lv := [(0, .ref hm), (1, .int (nI rule)), (2, .int (nI i)), (3, .int rd)]) (by decide) rfl (Nat.le_of_ble_eq_true rfl) rfl ?_
  intro X hXD hXg hXl hnm C E
  subst hXD hXg hXl
  have C : zC X cX6_ofOne 8 RX6 wsX6_ofOne ({ frames := 2, cells := 0, slots := 0, locals := 53 } : Room) := C
  have hiX6 : ∀ w ∈ u_ws RX6 TX6 16, w ∈ wsX6_ofOne := by decide +kernel
  have hf17 : Cond.fieldLink RX6 17 "RdfsRulesModel" "types" "[I" ∈ wsX6_ofOne := by decide +kernel
  have hf23 : Cond.fieldLink RX6 23 "RdfsRulesModel" "fresh" "[I" ∈ wsX6_ofOne := by decide +kernel
  have hn6 := hR.2.1
  have t0 : tok nl (M 3 (7 * i)) := by rw [show M 3 (7 * i) = S.1.getD i r0 0 from hR.2.2.2.2.1 i 0 hi (by omega)]; exact hT i 0 (by rw [hR.1]; exact hi) (by omega)
  have t1 : tok nl (M 3 (7 * i + 1)) := by rw [hR.2.2.2.2.1 i 1 hi (by omega)]; exact hT i 1 (by rw [hR.1]; exact hi) (by omega)
  have t2 : tok nl (M 3 (7 * i + 2)) := by rw [hR.2.2.2.2.1 i 2 hi (by omega)]; exact hT i 2 (by rw [hR.1]; exact hi) (by omega)
  rcases hru with rfl | rfl | rfl | rfl | rfl | rfl | rfl | rfl
  · skip
    refine z_aload_n (q := 1) C 0 rfl rfl dX6_ofOne_0 rfl ?_
    refine z_get (q := 4) (v := .ref (e 3)) C hiX6 0 12 rfl rfl (by decide) hf23 rfl dX6_ofOne_1 rfl ?_
    refine z_bipush (q := 6) C k_bipush_7 dX6_ofOne_4 rfl ?_
    refine z_iload_n (q := 7) C 2 rfl rfl dX6_ofOne_6 rfl ?_
    refine z_imul (q := 8) C dX6_ofOne_7 rfl ?_
    refine z_eqi (y := nI (7 * i)) (pk_mul 7 i) ?_
    refine z_iald (q := 9) C 4 rfl (i := 7 * i) (by omega) (by decide) dX6_ofOne_8 rfl ?_
    refine z_istore (q := 11) (lv' := [(4, .int ((M 3) (7 * i))), (0, .ref hm), (1, .int (nI 0)), (2, .int (nI i)), (3, .int rd)]) C dX6_ofOne_9 rfl (by decide) rfl ?_
    refine z_aload_n (q := 12) C 1 rfl rfl dX6_ofOne_11 rfl ?_
    refine z_get (q := 15) (v := .ref (e 3)) C hiX6 0 12 rfl rfl (by decide) hf23 rfl dX6_ofOne_12 rfl ?_
    refine z_bipush (q := 17) C k_bipush_7 dX6_ofOne_15 rfl ?_
    refine z_iload_n (q := 18) C 3 rfl rfl dX6_ofOne_17 rfl ?_
    refine z_imul (q := 19) C dX6_ofOne_18 rfl ?_
    refine z_eqi (y := nI (7 * i)) (pk_mul 7 i) ?_
    refine z_iconst (q := 20) C k_iconst_1 dX6_ofOne_19 rfl ?_
    refine z_iadd (q := 21) C dX6_ofOne_20 rfl ?_
    refine z_eqi (y := nI ((7 * i) + 1)) (nI_add (7 * i) 1) ?_
    refine z_iald (q := 22) C 4 rfl (i := (7 * i) + 1) (by omega) (by decide) dX6_ofOne_21 rfl ?_
    refine z_istore (q := 24) (lv' := [(5, .int ((M 3) ((7 * i) + 1))), (4, .int ((M 3) (7 * i))), (0, .ref hm), (1, .int (nI 0)), (2, .int (nI i)), (3, .int rd)]) C dX6_ofOne_22 rfl (by decide) rfl ?_
    refine z_aload_n (q := 25) C 2 rfl rfl dX6_ofOne_24 rfl ?_
    refine z_get (q := 28) (v := .ref (e 3)) C hiX6 0 12 rfl rfl (by decide) hf23 rfl dX6_ofOne_25 rfl ?_
    refine z_bipush (q := 30) C k_bipush_7 dX6_ofOne_28 rfl ?_
    refine z_iload_n (q := 31) C 4 rfl rfl dX6_ofOne_30 rfl ?_
    refine z_imul (q := 32) C dX6_ofOne_31 rfl ?_
    refine z_eqi (y := nI (7 * i)) (pk_mul 7 i) ?_
    refine z_iconst (q := 33) C k_iconst_2 dX6_ofOne_32 rfl ?_
    refine z_iadd (q := 34) C dX6_ofOne_33 rfl ?_
    refine z_eqi (y := nI ((7 * i) + 2)) (nI_add (7 * i) 2) ?_
    refine z_iald (q := 35) C 4 rfl (i := (7 * i) + 2) (by omega) (by decide) dX6_ofOne_34 rfl ?_
    refine z_istore (q := 37) (lv' := [(6, .int ((M 3) ((7 * i) + 2))), (5, .int ((M 3) ((7 * i) + 1))), (4, .int ((M 3) (7 * i))), (0, .ref hm), (1, .int (nI 0)), (2, .int (nI i)), (3, .int rd)]) C dX6_ofOne_35 rfl (by decide) rfl ?_
    refine z_iload (q := 39) C 1 rfl dX6_ofOne_37 rfl ?_
    refine z_if_ne_z (q := 42) (tgt := 46) C dX6_ofOne_39 (by decide) rfl (fun c39 => ?_) (fun c39 => ?_)
    · skip
      refine z_iconst (q := 47) C k_iconst_0 dX6_ofOne_46 rfl ?_
      refine z_istore (q := 49) (lv' := [(7, .int (nI 0)), (6, .int ((M 3) ((7 * i) + 2))), (5, .int ((M 3) ((7 * i) + 1))), (4, .int ((M 3) (7 * i))), (0, .ref hm), (1, .int (nI 0)), (2, .int (nI i)), (3, .int rd)]) C dX6_ofOne_47 rfl (by decide) rfl ?_
      refine z_iload_n (q := 50) C 5 rfl rfl dX6_ofOne_49 rfl ?_
      refine z_tableIn (off := 66) (tgt := 116) C dX6_ofOne_50 (by decide) (by decide) (by decide) (by decide) ?_
      refine z_iload (q := 118) C 1 rfl dX6_ofOne_116 rfl ?_
      refine z_sipush (q := 121) C k_sipush_300 dX6_ofOne_118 rfl ?_
      refine z_icmp_lt_i (q := 124) (tgt := 329) C rfl ti_300 dX6_ofOne_121 (by decide) rfl (fun c121 => ?_) (fun c121 => ?_)
      · skip
        refine z_vret C E (by omega) (by omega) dX6_ofOne_329 ?_
        refine ⟨M 3, M 4, md, fu, ?_, rfl, rfl⟩
        rw [show oneL nl (M 1) 0 (M 3 (7 * i)) (M 3 (7 * i + 1)) (M 3 (7 * i + 2)) = _ from if_neg (fun z => by have := of_decide_eq_true z; omega)]
        exact hR
      · skip
        refine z_aload_n (q := 125) C 4 rfl rfl dX6_ofOne_124 rfl ?_
        refine z_iload (q := 127) C 1 rfl dX6_ofOne_125 rfl ?_
        refine z_iconst (q := 128) C k_iconst_0 dX6_ofOne_127 rfl ?_
        refine z_aload_n (q := 129) C 4 rfl rfl dX6_ofOne_128 rfl ?_
        refine z_get (q := 132) (v := .ref (e 1)) C hiX6 0 7 rfl rfl (by decide) hf17 rfl dX6_ofOne_129 rfl ?_
        refine z_iload (q := 134) C 1 rfl dX6_ofOne_132 rfl ?_
        refine z_sipush (q := 137) C k_sipush_300 dX6_ofOne_134 rfl ?_
        refine z_isub (q := 138) C dX6_ofOne_137 rfl ?_
        refine z_eqi (y := nI ((M 3 (7 * i + 2)).toInt.toNat - 300)) (lit_sub (n := nl) ⟨c121, (t2.lit hnl).1⟩) ?_
        refine z_iald (q := 139) C 2 rfl (i := (M 3 (7 * i + 2)).toInt.toNat - 300) (by have := (t2.lit hnl).1; omega) (by decide) dX6_ofOne_138 rfl ?_
        refine z_iconst (q := 140) C k_iconst_0 dX6_ofOne_139 rfl ?_
        refine z_iload_n (q := 141) C 6 rfl rfl dX6_ofOne_140 rfl ?_
        refine z_iconst (q := 142) C k_iconst_m1 dX6_ofOne_141 rfl ?_
        refine z_iload_n (q := 143) C 7 rfl rfl dX6_ofOne_142 rfl ?_
        refine z_callV (q := 146) (n := 7) (As := [.int ((M 3) ((7 * i) + 2)), .int (nI 0), .int ((M 1) ((M 3 (7 * i + 2)).toInt.toNat - 300)), .int (nI 0), .int (nI i), .int (-1), .int rd]) (rest := []) (wr := []) C (c_X6_makes X.l X.D X.2.1 hm e M cd mb ak cnt k nl n m md fu hnl S hR ((M 3) ((7 * i) + 2)) (nI 0) ((M 1) ((M 3 (7 * i + 2)).toInt.toNat - 300)) (nI 0) (nI i) (-1) rd t2 (tok_n 0 (by omega)) (hf _ (by have := (t2.lit hnl).1; omega))) gX6_ofOne_X6_makes rfl rfl rfl (by decide +kernel) (by decide) ⟨by first | decide | omega, by first | decide | omega⟩ 0 6 rfl rfl [0, 1, 2, 3, 4, 5, 6] [] rfl rfl (by decide) (by decide) (by decide) rfl rfl (Nat.le_of_ble_eq_true rfl) dX6_ofOne_143 rfl (fun v w1 hp => ?_)
        obtain ⟨f3, f4, md1, fu1, hR1, rfl, rfl⟩ := hp
        show zW X 8 [(hm, .inr (6, [.int cd, .int (zb mb), .int (zb ak), .int (nI cnt), .int (nI k), .ref (e 0), .int (nI nl), .ref (e 1), .int (nI n), .ref (e 2), .int (nI m), .int (nI md1), .ref (e 3), .ref (e 4), .int (zb fu1), .ref (e 5)])), (e 0, .inl (X.cI, 240, .inl (M 0))), (e 1, .inl (X.cI, 40, .inl (M 1))), (e 2, .inl (X.cI, 4200, .inl (M 2))), (e 3, .inl (X.cI, 4207, .inl f3)), (e 4, .inl (X.cI, 2048, .inl f4)), (e 5, .inl (X.cI, 600, .inl (M 5)))] _ _ 146 _ []
        refine z_goto (tgt := 329) C dX6_ofOne_146 (by decide) ?_
        refine z_vret C E (by omega) (by omega) dX6_ofOne_329 ?_
        refine ⟨f3, f4, md1, fu1, ?_, rfl, rfl⟩
        rw [show oneL nl (M 1) 0 (M 3 (7 * i)) (M 3 (7 * i + 1)) (M 3 (7 * i + 2)) = _ from if_pos (decide_eq_true ⟨c121, (t2.lit hnl).1⟩)]
        exact hR1
    · skip
      refine z_iconst (q := 43) C k_iconst_1 dX6_ofOne_42 rfl ?_
      refine z_goto (tgt := 47) C dX6_ofOne_43 (by decide) ?_
      refine z_istore (q := 49) (lv' := [(7, .int (nI 1)), (6, .int ((M 3) ((7 * i) + 2))), (5, .int ((M 3) ((7 * i) + 1))), (4, .int ((M 3) (7 * i))), (0, .ref hm), (1, .int (nI 0)), (2, .int (nI i)), (3, .int rd)]) C dX6_ofOne_47 rfl (by decide) rfl ?_
      refine z_iload_n (q := 50) C 5 rfl rfl dX6_ofOne_49 rfl ?_
      refine z_tableIn (off := 66) (tgt := 116) C dX6_ofOne_50 (by decide) (by decide) (by decide) (by decide) ?_
      refine z_iload (q := 118) C 1 rfl dX6_ofOne_116 rfl ?_
      refine z_sipush (q := 121) C k_sipush_300 dX6_ofOne_118 rfl ?_
      refine z_icmp_lt_i (q := 124) (tgt := 329) C rfl ti_300 dX6_ofOne_121 (by decide) rfl (fun c121 => ?_) (fun c121 => ?_)
      · skip
        refine z_vret C E (by omega) (by omega) dX6_ofOne_329 ?_
        refine ⟨M 3, M 4, md, fu, ?_, rfl, rfl⟩
        rw [show oneL nl (M 1) 0 (M 3 (7 * i)) (M 3 (7 * i + 1)) (M 3 (7 * i + 2)) = _ from if_neg (fun z => by have := of_decide_eq_true z; omega)]
        exact hR
      · skip
        refine z_aload_n (q := 125) C 4 rfl rfl dX6_ofOne_124 rfl ?_
        refine z_iload (q := 127) C 1 rfl dX6_ofOne_125 rfl ?_
        refine z_iconst (q := 128) C k_iconst_0 dX6_ofOne_127 rfl ?_
        refine z_aload_n (q := 129) C 4 rfl rfl dX6_ofOne_128 rfl ?_
        refine z_get (q := 132) (v := .ref (e 1)) C hiX6 0 7 rfl rfl (by decide) hf17 rfl dX6_ofOne_129 rfl ?_
        refine z_iload (q := 134) C 1 rfl dX6_ofOne_132 rfl ?_
        refine z_sipush (q := 137) C k_sipush_300 dX6_ofOne_134 rfl ?_
        refine z_isub (q := 138) C dX6_ofOne_137 rfl ?_
        refine z_eqi (y := nI ((M 3 (7 * i + 2)).toInt.toNat - 300)) (lit_sub (n := nl) ⟨c121, (t2.lit hnl).1⟩) ?_
        refine z_iald (q := 139) C 2 rfl (i := (M 3 (7 * i + 2)).toInt.toNat - 300) (by have := (t2.lit hnl).1; omega) (by decide) dX6_ofOne_138 rfl ?_
        refine z_iconst (q := 140) C k_iconst_0 dX6_ofOne_139 rfl ?_
        refine z_iload_n (q := 141) C 6 rfl rfl dX6_ofOne_140 rfl ?_
        refine z_iconst (q := 142) C k_iconst_m1 dX6_ofOne_141 rfl ?_
        refine z_iload_n (q := 143) C 7 rfl rfl dX6_ofOne_142 rfl ?_
        refine z_callV (q := 146) (n := 7) (As := [.int ((M 3) ((7 * i) + 2)), .int (nI 0), .int ((M 1) ((M 3 (7 * i + 2)).toInt.toNat - 300)), .int (nI 0), .int (nI i), .int (-1), .int rd]) (rest := []) (wr := []) C (c_X6_makes X.l X.D X.2.1 hm e M cd mb ak cnt k nl n m md fu hnl S hR ((M 3) ((7 * i) + 2)) (nI 0) ((M 1) ((M 3 (7 * i + 2)).toInt.toNat - 300)) (nI 0) (nI i) (-1) rd t2 (tok_n 0 (by omega)) (hf _ (by have := (t2.lit hnl).1; omega))) gX6_ofOne_X6_makes rfl rfl rfl (by decide +kernel) (by decide) ⟨by first | decide | omega, by first | decide | omega⟩ 0 6 rfl rfl [0, 1, 2, 3, 4, 5, 6] [] rfl rfl (by decide) (by decide) (by decide) rfl rfl (Nat.le_of_ble_eq_true rfl) dX6_ofOne_143 rfl (fun v w1 hp => ?_)
        obtain ⟨f3, f4, md1, fu1, hR1, rfl, rfl⟩ := hp
        show zW X 8 [(hm, .inr (6, [.int cd, .int (zb mb), .int (zb ak), .int (nI cnt), .int (nI k), .ref (e 0), .int (nI nl), .ref (e 1), .int (nI n), .ref (e 2), .int (nI m), .int (nI md1), .ref (e 3), .ref (e 4), .int (zb fu1), .ref (e 5)])), (e 0, .inl (X.cI, 240, .inl (M 0))), (e 1, .inl (X.cI, 40, .inl (M 1))), (e 2, .inl (X.cI, 4200, .inl (M 2))), (e 3, .inl (X.cI, 4207, .inl f3)), (e 4, .inl (X.cI, 2048, .inl f4)), (e 5, .inl (X.cI, 600, .inl (M 5)))] _ _ 146 _ []
        refine z_goto (tgt := 329) C dX6_ofOne_146 (by decide) ?_
        refine z_vret C E (by omega) (by omega) dX6_ofOne_329 ?_
        refine ⟨f3, f4, md1, fu1, ?_, rfl, rfl⟩
        rw [show oneL nl (M 1) 0 (M 3 (7 * i)) (M 3 (7 * i + 1)) (M 3 (7 * i + 2)) = _ from if_pos (decide_eq_true ⟨c121, (t2.lit hnl).1⟩)]
        exact hR1
  · skip
    refine z_aload_n (q := 1) C 0 rfl rfl dX6_ofOne_0 rfl ?_
    refine z_get (q := 4) (v := .ref (e 3)) C hiX6 0 12 rfl rfl (by decide) hf23 rfl dX6_ofOne_1 rfl ?_
    refine z_bipush (q := 6) C k_bipush_7 dX6_ofOne_4 rfl ?_
    refine z_iload_n (q := 7) C 2 rfl rfl dX6_ofOne_6 rfl ?_
    refine z_imul (q := 8) C dX6_ofOne_7 rfl ?_
    refine z_eqi (y := nI (7 * i)) (pk_mul 7 i) ?_
    refine z_iald (q := 9) C 4 rfl (i := 7 * i) (by omega) (by decide) dX6_ofOne_8 rfl ?_
    refine z_istore (q := 11) (lv' := [(4, .int ((M 3) (7 * i))), (0, .ref hm), (1, .int (nI 1)), (2, .int (nI i)), (3, .int rd)]) C dX6_ofOne_9 rfl (by decide) rfl ?_
    refine z_aload_n (q := 12) C 1 rfl rfl dX6_ofOne_11 rfl ?_
    refine z_get (q := 15) (v := .ref (e 3)) C hiX6 0 12 rfl rfl (by decide) hf23 rfl dX6_ofOne_12 rfl ?_
    refine z_bipush (q := 17) C k_bipush_7 dX6_ofOne_15 rfl ?_
    refine z_iload_n (q := 18) C 3 rfl rfl dX6_ofOne_17 rfl ?_
    refine z_imul (q := 19) C dX6_ofOne_18 rfl ?_
    refine z_eqi (y := nI (7 * i)) (pk_mul 7 i) ?_
    refine z_iconst (q := 20) C k_iconst_1 dX6_ofOne_19 rfl ?_
    refine z_iadd (q := 21) C dX6_ofOne_20 rfl ?_
    refine z_eqi (y := nI ((7 * i) + 1)) (nI_add (7 * i) 1) ?_
    refine z_iald (q := 22) C 4 rfl (i := (7 * i) + 1) (by omega) (by decide) dX6_ofOne_21 rfl ?_
    refine z_istore (q := 24) (lv' := [(5, .int ((M 3) ((7 * i) + 1))), (4, .int ((M 3) (7 * i))), (0, .ref hm), (1, .int (nI 1)), (2, .int (nI i)), (3, .int rd)]) C dX6_ofOne_22 rfl (by decide) rfl ?_
    refine z_aload_n (q := 25) C 2 rfl rfl dX6_ofOne_24 rfl ?_
    refine z_get (q := 28) (v := .ref (e 3)) C hiX6 0 12 rfl rfl (by decide) hf23 rfl dX6_ofOne_25 rfl ?_
    refine z_bipush (q := 30) C k_bipush_7 dX6_ofOne_28 rfl ?_
    refine z_iload_n (q := 31) C 4 rfl rfl dX6_ofOne_30 rfl ?_
    refine z_imul (q := 32) C dX6_ofOne_31 rfl ?_
    refine z_eqi (y := nI (7 * i)) (pk_mul 7 i) ?_
    refine z_iconst (q := 33) C k_iconst_2 dX6_ofOne_32 rfl ?_
    refine z_iadd (q := 34) C dX6_ofOne_33 rfl ?_
    refine z_eqi (y := nI ((7 * i) + 2)) (nI_add (7 * i) 2) ?_
    refine z_iald (q := 35) C 4 rfl (i := (7 * i) + 2) (by omega) (by decide) dX6_ofOne_34 rfl ?_
    refine z_istore (q := 37) (lv' := [(6, .int ((M 3) ((7 * i) + 2))), (5, .int ((M 3) ((7 * i) + 1))), (4, .int ((M 3) (7 * i))), (0, .ref hm), (1, .int (nI 1)), (2, .int (nI i)), (3, .int rd)]) C dX6_ofOne_35 rfl (by decide) rfl ?_
    refine z_iload (q := 39) C 1 rfl dX6_ofOne_37 rfl ?_
    refine z_if_ne_z (q := 42) (tgt := 46) C dX6_ofOne_39 (by decide) rfl (fun c39 => ?_) (fun c39 => ?_)
    · skip
      refine z_iconst (q := 47) C k_iconst_0 dX6_ofOne_46 rfl ?_
      refine z_istore (q := 49) (lv' := [(7, .int (nI 0)), (6, .int ((M 3) ((7 * i) + 2))), (5, .int ((M 3) ((7 * i) + 1))), (4, .int ((M 3) (7 * i))), (0, .ref hm), (1, .int (nI 1)), (2, .int (nI i)), (3, .int rd)]) C dX6_ofOne_47 rfl (by decide) rfl ?_
      refine z_iload_n (q := 50) C 5 rfl rfl dX6_ofOne_49 rfl ?_
      refine z_tableIn (off := 99) (tgt := 149) C dX6_ofOne_50 (by decide) (by decide) (by decide) (by decide) ?_
      refine z_aload_n (q := 150) C 4 rfl rfl dX6_ofOne_149 rfl ?_
      refine z_iload (q := 152) C 2 rfl dX6_ofOne_150 rfl ?_
      refine z_iconst (q := 153) C k_iconst_0 dX6_ofOne_152 rfl ?_
      refine z_iconst (q := 154) C k_iconst_1 dX6_ofOne_153 rfl ?_
      refine z_iconst (q := 155) C k_iconst_1 dX6_ofOne_154 rfl ?_
      refine z_iload_n (q := 156) C 6 rfl rfl dX6_ofOne_155 rfl ?_
      refine z_iconst (q := 157) C k_iconst_m1 dX6_ofOne_156 rfl ?_
      refine z_iload_n (q := 158) C 7 rfl rfl dX6_ofOne_157 rfl ?_
      refine z_callV (q := 161) (n := 7) (As := [.int ((M 3) ((7 * i) + 1)), .int (nI 0), .int (nI 1), .int (nI 1), .int (nI i), .int (-1), .int rd]) (rest := []) (wr := []) C (c_X6_makes X.l X.D X.2.1 hm e M cd mb ak cnt k nl n m md fu hnl S hR ((M 3) ((7 * i) + 1)) (nI 0) (nI 1) (nI 1) (nI i) (-1) rd t1 (tok_n 0 (by omega)) (tok_n 1 (by omega))) gX6_ofOne_X6_makes rfl rfl rfl (by decide +kernel) (by decide) ⟨by first | decide | omega, by first | decide | omega⟩ 0 6 rfl rfl [0, 1, 2, 3, 4, 5, 6] [] rfl rfl (by decide) (by decide) (by decide) rfl rfl (Nat.le_of_ble_eq_true rfl) dX6_ofOne_158 rfl (fun v w1 hp => ?_)
      obtain ⟨f3, f4, md1, fu1, hR1, rfl, rfl⟩ := hp
      show zW X 8 [(hm, .inr (6, [.int cd, .int (zb mb), .int (zb ak), .int (nI cnt), .int (nI k), .ref (e 0), .int (nI nl), .ref (e 1), .int (nI n), .ref (e 2), .int (nI m), .int (nI md1), .ref (e 3), .ref (e 4), .int (zb fu1), .ref (e 5)])), (e 0, .inl (X.cI, 240, .inl (M 0))), (e 1, .inl (X.cI, 40, .inl (M 1))), (e 2, .inl (X.cI, 4200, .inl (M 2))), (e 3, .inl (X.cI, 4207, .inl f3)), (e 4, .inl (X.cI, 2048, .inl f4)), (e 5, .inl (X.cI, 600, .inl (M 5)))] _ _ 161 _ []
      refine z_goto (tgt := 329) C dX6_ofOne_161 (by decide) ?_
      refine z_vret C E (by omega) (by omega) dX6_ofOne_329 ?_
      refine ⟨f3, f4, md1, fu1, ?_, rfl, rfl⟩
      rw [show oneL nl (M 1) 1 (M 3 (7 * i)) (M 3 (7 * i + 1)) (M 3 (7 * i + 2)) = _ from rfl]
      exact hR1
    · skip
      refine z_iconst (q := 43) C k_iconst_1 dX6_ofOne_42 rfl ?_
      refine z_goto (tgt := 47) C dX6_ofOne_43 (by decide) ?_
      refine z_istore (q := 49) (lv' := [(7, .int (nI 1)), (6, .int ((M 3) ((7 * i) + 2))), (5, .int ((M 3) ((7 * i) + 1))), (4, .int ((M 3) (7 * i))), (0, .ref hm), (1, .int (nI 1)), (2, .int (nI i)), (3, .int rd)]) C dX6_ofOne_47 rfl (by decide) rfl ?_
      refine z_iload_n (q := 50) C 5 rfl rfl dX6_ofOne_49 rfl ?_
      refine z_tableIn (off := 99) (tgt := 149) C dX6_ofOne_50 (by decide) (by decide) (by decide) (by decide) ?_
      refine z_aload_n (q := 150) C 4 rfl rfl dX6_ofOne_149 rfl ?_
      refine z_iload (q := 152) C 2 rfl dX6_ofOne_150 rfl ?_
      refine z_iconst (q := 153) C k_iconst_0 dX6_ofOne_152 rfl ?_
      refine z_iconst (q := 154) C k_iconst_1 dX6_ofOne_153 rfl ?_
      refine z_iconst (q := 155) C k_iconst_1 dX6_ofOne_154 rfl ?_
      refine z_iload_n (q := 156) C 6 rfl rfl dX6_ofOne_155 rfl ?_
      refine z_iconst (q := 157) C k_iconst_m1 dX6_ofOne_156 rfl ?_
      refine z_iload_n (q := 158) C 7 rfl rfl dX6_ofOne_157 rfl ?_
      refine z_callV (q := 161) (n := 7) (As := [.int ((M 3) ((7 * i) + 1)), .int (nI 0), .int (nI 1), .int (nI 1), .int (nI i), .int (-1), .int rd]) (rest := []) (wr := []) C (c_X6_makes X.l X.D X.2.1 hm e M cd mb ak cnt k nl n m md fu hnl S hR ((M 3) ((7 * i) + 1)) (nI 0) (nI 1) (nI 1) (nI i) (-1) rd t1 (tok_n 0 (by omega)) (tok_n 1 (by omega))) gX6_ofOne_X6_makes rfl rfl rfl (by decide +kernel) (by decide) ⟨by first | decide | omega, by first | decide | omega⟩ 0 6 rfl rfl [0, 1, 2, 3, 4, 5, 6] [] rfl rfl (by decide) (by decide) (by decide) rfl rfl (Nat.le_of_ble_eq_true rfl) dX6_ofOne_158 rfl (fun v w1 hp => ?_)
      obtain ⟨f3, f4, md1, fu1, hR1, rfl, rfl⟩ := hp
      show zW X 8 [(hm, .inr (6, [.int cd, .int (zb mb), .int (zb ak), .int (nI cnt), .int (nI k), .ref (e 0), .int (nI nl), .ref (e 1), .int (nI n), .ref (e 2), .int (nI m), .int (nI md1), .ref (e 3), .ref (e 4), .int (zb fu1), .ref (e 5)])), (e 0, .inl (X.cI, 240, .inl (M 0))), (e 1, .inl (X.cI, 40, .inl (M 1))), (e 2, .inl (X.cI, 4200, .inl (M 2))), (e 3, .inl (X.cI, 4207, .inl f3)), (e 4, .inl (X.cI, 2048, .inl f4)), (e 5, .inl (X.cI, 600, .inl (M 5)))] _ _ 161 _ []
      refine z_goto (tgt := 329) C dX6_ofOne_161 (by decide) ?_
      refine z_vret C E (by omega) (by omega) dX6_ofOne_329 ?_
      refine ⟨f3, f4, md1, fu1, ?_, rfl, rfl⟩
      rw [show oneL nl (M 1) 1 (M 3 (7 * i)) (M 3 (7 * i + 1)) (M 3 (7 * i + 2)) = _ from rfl]
      exact hR1
  · skip
    refine z_aload_n (q := 1) C 0 rfl rfl dX6_ofOne_0 rfl ?_
    refine z_get (q := 4) (v := .ref (e 3)) C hiX6 0 12 rfl rfl (by decide) hf23 rfl dX6_ofOne_1 rfl ?_
    refine z_bipush (q := 6) C k_bipush_7 dX6_ofOne_4 rfl ?_
    refine z_iload_n (q := 7) C 2 rfl rfl dX6_ofOne_6 rfl ?_
    refine z_imul (q := 8) C dX6_ofOne_7 rfl ?_
    refine z_eqi (y := nI (7 * i)) (pk_mul 7 i) ?_
    refine z_iald (q := 9) C 4 rfl (i := 7 * i) (by omega) (by decide) dX6_ofOne_8 rfl ?_
    refine z_istore (q := 11) (lv' := [(4, .int ((M 3) (7 * i))), (0, .ref hm), (1, .int (nI 4)), (2, .int (nI i)), (3, .int rd)]) C dX6_ofOne_9 rfl (by decide) rfl ?_
    refine z_aload_n (q := 12) C 1 rfl rfl dX6_ofOne_11 rfl ?_
    refine z_get (q := 15) (v := .ref (e 3)) C hiX6 0 12 rfl rfl (by decide) hf23 rfl dX6_ofOne_12 rfl ?_
    refine z_bipush (q := 17) C k_bipush_7 dX6_ofOne_15 rfl ?_
    refine z_iload_n (q := 18) C 3 rfl rfl dX6_ofOne_17 rfl ?_
    refine z_imul (q := 19) C dX6_ofOne_18 rfl ?_
    refine z_eqi (y := nI (7 * i)) (pk_mul 7 i) ?_
    refine z_iconst (q := 20) C k_iconst_1 dX6_ofOne_19 rfl ?_
    refine z_iadd (q := 21) C dX6_ofOne_20 rfl ?_
    refine z_eqi (y := nI ((7 * i) + 1)) (nI_add (7 * i) 1) ?_
    refine z_iald (q := 22) C 4 rfl (i := (7 * i) + 1) (by omega) (by decide) dX6_ofOne_21 rfl ?_
    refine z_istore (q := 24) (lv' := [(5, .int ((M 3) ((7 * i) + 1))), (4, .int ((M 3) (7 * i))), (0, .ref hm), (1, .int (nI 4)), (2, .int (nI i)), (3, .int rd)]) C dX6_ofOne_22 rfl (by decide) rfl ?_
    refine z_aload_n (q := 25) C 2 rfl rfl dX6_ofOne_24 rfl ?_
    refine z_get (q := 28) (v := .ref (e 3)) C hiX6 0 12 rfl rfl (by decide) hf23 rfl dX6_ofOne_25 rfl ?_
    refine z_bipush (q := 30) C k_bipush_7 dX6_ofOne_28 rfl ?_
    refine z_iload_n (q := 31) C 4 rfl rfl dX6_ofOne_30 rfl ?_
    refine z_imul (q := 32) C dX6_ofOne_31 rfl ?_
    refine z_eqi (y := nI (7 * i)) (pk_mul 7 i) ?_
    refine z_iconst (q := 33) C k_iconst_2 dX6_ofOne_32 rfl ?_
    refine z_iadd (q := 34) C dX6_ofOne_33 rfl ?_
    refine z_eqi (y := nI ((7 * i) + 2)) (nI_add (7 * i) 2) ?_
    refine z_iald (q := 35) C 4 rfl (i := (7 * i) + 2) (by omega) (by decide) dX6_ofOne_34 rfl ?_
    refine z_istore (q := 37) (lv' := [(6, .int ((M 3) ((7 * i) + 2))), (5, .int ((M 3) ((7 * i) + 1))), (4, .int ((M 3) (7 * i))), (0, .ref hm), (1, .int (nI 4)), (2, .int (nI i)), (3, .int rd)]) C dX6_ofOne_35 rfl (by decide) rfl ?_
    refine z_iload (q := 39) C 1 rfl dX6_ofOne_37 rfl ?_
    refine z_if_ne_z (q := 42) (tgt := 46) C dX6_ofOne_39 (by decide) rfl (fun c39 => ?_) (fun c39 => ?_)
    · skip
      refine z_iconst (q := 47) C k_iconst_0 dX6_ofOne_46 rfl ?_
      refine z_istore (q := 49) (lv' := [(7, .int (nI 0)), (6, .int ((M 3) ((7 * i) + 2))), (5, .int ((M 3) ((7 * i) + 1))), (4, .int ((M 3) (7 * i))), (0, .ref hm), (1, .int (nI 4)), (2, .int (nI i)), (3, .int rd)]) C dX6_ofOne_47 rfl (by decide) rfl ?_
      refine z_iload_n (q := 50) C 5 rfl rfl dX6_ofOne_49 rfl ?_
      refine z_tableIn (off := 114) (tgt := 164) C dX6_ofOne_50 (by decide) (by decide) (by decide) (by decide) ?_
      refine z_aload_n (q := 165) C 4 rfl rfl dX6_ofOne_164 rfl ?_
      refine z_iload (q := 167) C 3 rfl dX6_ofOne_165 rfl ?_
      refine z_iconst (q := 168) C k_iconst_0 dX6_ofOne_167 rfl ?_
      refine z_iconst (q := 169) C k_iconst_2 dX6_ofOne_168 rfl ?_
      refine z_iconst (q := 170) C k_iconst_4 dX6_ofOne_169 rfl ?_
      refine z_iload_n (q := 171) C 6 rfl rfl dX6_ofOne_170 rfl ?_
      refine z_iconst (q := 172) C k_iconst_m1 dX6_ofOne_171 rfl ?_
      refine z_iload_n (q := 173) C 7 rfl rfl dX6_ofOne_172 rfl ?_
      refine z_callV (q := 176) (n := 7) (As := [.int ((M 3) (7 * i)), .int (nI 0), .int (nI 2), .int (nI 4), .int (nI i), .int (-1), .int rd]) (rest := []) (wr := []) C (c_X6_makes X.l X.D X.2.1 hm e M cd mb ak cnt k nl n m md fu hnl S hR ((M 3) (7 * i)) (nI 0) (nI 2) (nI 4) (nI i) (-1) rd t0 (tok_n 0 (by omega)) (tok_n 2 (by omega))) gX6_ofOne_X6_makes rfl rfl rfl (by decide +kernel) (by decide) ⟨by first | decide | omega, by first | decide | omega⟩ 0 6 rfl rfl [0, 1, 2, 3, 4, 5, 6] [] rfl rfl (by decide) (by decide) (by decide) rfl rfl (Nat.le_of_ble_eq_true rfl) dX6_ofOne_173 rfl (fun v w1 hp => ?_)
      obtain ⟨f3, f4, md1, fu1, hR1, rfl, rfl⟩ := hp
      show zW X 8 [(hm, .inr (6, [.int cd, .int (zb mb), .int (zb ak), .int (nI cnt), .int (nI k), .ref (e 0), .int (nI nl), .ref (e 1), .int (nI n), .ref (e 2), .int (nI m), .int (nI md1), .ref (e 3), .ref (e 4), .int (zb fu1), .ref (e 5)])), (e 0, .inl (X.cI, 240, .inl (M 0))), (e 1, .inl (X.cI, 40, .inl (M 1))), (e 2, .inl (X.cI, 4200, .inl (M 2))), (e 3, .inl (X.cI, 4207, .inl f3)), (e 4, .inl (X.cI, 2048, .inl f4)), (e 5, .inl (X.cI, 600, .inl (M 5)))] _ _ 176 _ []
      refine z_aload_n (q := 177) C 4 rfl rfl dX6_ofOne_176 rfl ?_
      refine z_iload (q := 179) C 1 rfl dX6_ofOne_177 rfl ?_
      refine z_iconst (q := 180) C k_iconst_0 dX6_ofOne_179 rfl ?_
      refine z_iconst (q := 181) C k_iconst_2 dX6_ofOne_180 rfl ?_
      refine z_iconst (q := 182) C k_iconst_4 dX6_ofOne_181 rfl ?_
      refine z_iload_n (q := 183) C 6 rfl rfl dX6_ofOne_182 rfl ?_
      refine z_iconst (q := 184) C k_iconst_m1 dX6_ofOne_183 rfl ?_
      refine z_iload_n (q := 185) C 7 rfl rfl dX6_ofOne_184 rfl ?_
      refine z_callV (q := 188) (n := 7) (As := [.int ((M 3) ((7 * i) + 2)), .int (nI 0), .int (nI 2), .int (nI 4), .int (nI i), .int (-1), .int rd]) (rest := []) (wr := []) C (c_X6_makes X.l X.D X.2.1 hm e (setM M f3 f4) cd mb ak cnt k nl n m md1 fu1 hnl (addR S (mkRow ((M 3) (7 * i)) (nI 0) (nI 2) (nI 4) (nI i) (-1) rd)) hR1 ((M 3) ((7 * i) + 2)) (nI 0) (nI 2) (nI 4) (nI i) (-1) rd t2 (tok_n 0 (by omega)) (tok_n 2 (by omega))) gX6_ofOne_X6_makes rfl rfl rfl (by decide +kernel) (by decide) ⟨by first | decide | omega, by first | decide | omega⟩ 0 6 rfl rfl [0, 1, 2, 3, 4, 5, 6] [] rfl rfl (by decide) (by decide) (by decide) rfl rfl (Nat.le_of_ble_eq_true rfl) dX6_ofOne_185 rfl (fun v w1 hp => ?_)
      obtain ⟨f5, f6, md2, fu2, hR2, rfl, rfl⟩ := hp
      show zW X 8 [(hm, .inr (6, [.int cd, .int (zb mb), .int (zb ak), .int (nI cnt), .int (nI k), .ref (e 0), .int (nI nl), .ref (e 1), .int (nI n), .ref (e 2), .int (nI m), .int (nI md2), .ref (e 3), .ref (e 4), .int (zb fu2), .ref (e 5)])), (e 0, .inl (X.cI, 240, .inl (M 0))), (e 1, .inl (X.cI, 40, .inl (M 1))), (e 2, .inl (X.cI, 4200, .inl (M 2))), (e 3, .inl (X.cI, 4207, .inl f5)), (e 4, .inl (X.cI, 2048, .inl f6)), (e 5, .inl (X.cI, 600, .inl (M 5)))] _ _ 188 _ []
      refine z_goto (tgt := 329) C dX6_ofOne_188 (by decide) ?_
      refine z_vret C E (by omega) (by omega) dX6_ofOne_329 ?_
      refine ⟨f5, f6, md2, fu2, ?_, rfl, rfl⟩
      rw [show oneL nl (M 1) 4 (M 3 (7 * i)) (M 3 (7 * i + 1)) (M 3 (7 * i + 2)) = _ from rfl]
      exact hR2
    · skip
      refine z_iconst (q := 43) C k_iconst_1 dX6_ofOne_42 rfl ?_
      refine z_goto (tgt := 47) C dX6_ofOne_43 (by decide) ?_
      refine z_istore (q := 49) (lv' := [(7, .int (nI 1)), (6, .int ((M 3) ((7 * i) + 2))), (5, .int ((M 3) ((7 * i) + 1))), (4, .int ((M 3) (7 * i))), (0, .ref hm), (1, .int (nI 4)), (2, .int (nI i)), (3, .int rd)]) C dX6_ofOne_47 rfl (by decide) rfl ?_
      refine z_iload_n (q := 50) C 5 rfl rfl dX6_ofOne_49 rfl ?_
      refine z_tableIn (off := 114) (tgt := 164) C dX6_ofOne_50 (by decide) (by decide) (by decide) (by decide) ?_
      refine z_aload_n (q := 165) C 4 rfl rfl dX6_ofOne_164 rfl ?_
      refine z_iload (q := 167) C 3 rfl dX6_ofOne_165 rfl ?_
      refine z_iconst (q := 168) C k_iconst_0 dX6_ofOne_167 rfl ?_
      refine z_iconst (q := 169) C k_iconst_2 dX6_ofOne_168 rfl ?_
      refine z_iconst (q := 170) C k_iconst_4 dX6_ofOne_169 rfl ?_
      refine z_iload_n (q := 171) C 6 rfl rfl dX6_ofOne_170 rfl ?_
      refine z_iconst (q := 172) C k_iconst_m1 dX6_ofOne_171 rfl ?_
      refine z_iload_n (q := 173) C 7 rfl rfl dX6_ofOne_172 rfl ?_
      refine z_callV (q := 176) (n := 7) (As := [.int ((M 3) (7 * i)), .int (nI 0), .int (nI 2), .int (nI 4), .int (nI i), .int (-1), .int rd]) (rest := []) (wr := []) C (c_X6_makes X.l X.D X.2.1 hm e M cd mb ak cnt k nl n m md fu hnl S hR ((M 3) (7 * i)) (nI 0) (nI 2) (nI 4) (nI i) (-1) rd t0 (tok_n 0 (by omega)) (tok_n 2 (by omega))) gX6_ofOne_X6_makes rfl rfl rfl (by decide +kernel) (by decide) ⟨by first | decide | omega, by first | decide | omega⟩ 0 6 rfl rfl [0, 1, 2, 3, 4, 5, 6] [] rfl rfl (by decide) (by decide) (by decide) rfl rfl (Nat.le_of_ble_eq_true rfl) dX6_ofOne_173 rfl (fun v w1 hp => ?_)
      obtain ⟨f3, f4, md1, fu1, hR1, rfl, rfl⟩ := hp
      show zW X 8 [(hm, .inr (6, [.int cd, .int (zb mb), .int (zb ak), .int (nI cnt), .int (nI k), .ref (e 0), .int (nI nl), .ref (e 1), .int (nI n), .ref (e 2), .int (nI m), .int (nI md1), .ref (e 3), .ref (e 4), .int (zb fu1), .ref (e 5)])), (e 0, .inl (X.cI, 240, .inl (M 0))), (e 1, .inl (X.cI, 40, .inl (M 1))), (e 2, .inl (X.cI, 4200, .inl (M 2))), (e 3, .inl (X.cI, 4207, .inl f3)), (e 4, .inl (X.cI, 2048, .inl f4)), (e 5, .inl (X.cI, 600, .inl (M 5)))] _ _ 176 _ []
      refine z_aload_n (q := 177) C 4 rfl rfl dX6_ofOne_176 rfl ?_
      refine z_iload (q := 179) C 1 rfl dX6_ofOne_177 rfl ?_
      refine z_iconst (q := 180) C k_iconst_0 dX6_ofOne_179 rfl ?_
      refine z_iconst (q := 181) C k_iconst_2 dX6_ofOne_180 rfl ?_
      refine z_iconst (q := 182) C k_iconst_4 dX6_ofOne_181 rfl ?_
      refine z_iload_n (q := 183) C 6 rfl rfl dX6_ofOne_182 rfl ?_
      refine z_iconst (q := 184) C k_iconst_m1 dX6_ofOne_183 rfl ?_
      refine z_iload_n (q := 185) C 7 rfl rfl dX6_ofOne_184 rfl ?_
      refine z_callV (q := 188) (n := 7) (As := [.int ((M 3) ((7 * i) + 2)), .int (nI 0), .int (nI 2), .int (nI 4), .int (nI i), .int (-1), .int rd]) (rest := []) (wr := []) C (c_X6_makes X.l X.D X.2.1 hm e (setM M f3 f4) cd mb ak cnt k nl n m md1 fu1 hnl (addR S (mkRow ((M 3) (7 * i)) (nI 0) (nI 2) (nI 4) (nI i) (-1) rd)) hR1 ((M 3) ((7 * i) + 2)) (nI 0) (nI 2) (nI 4) (nI i) (-1) rd t2 (tok_n 0 (by omega)) (tok_n 2 (by omega))) gX6_ofOne_X6_makes rfl rfl rfl (by decide +kernel) (by decide) ⟨by first | decide | omega, by first | decide | omega⟩ 0 6 rfl rfl [0, 1, 2, 3, 4, 5, 6] [] rfl rfl (by decide) (by decide) (by decide) rfl rfl (Nat.le_of_ble_eq_true rfl) dX6_ofOne_185 rfl (fun v w1 hp => ?_)
      obtain ⟨f5, f6, md2, fu2, hR2, rfl, rfl⟩ := hp
      show zW X 8 [(hm, .inr (6, [.int cd, .int (zb mb), .int (zb ak), .int (nI cnt), .int (nI k), .ref (e 0), .int (nI nl), .ref (e 1), .int (nI n), .ref (e 2), .int (nI m), .int (nI md2), .ref (e 3), .ref (e 4), .int (zb fu2), .ref (e 5)])), (e 0, .inl (X.cI, 240, .inl (M 0))), (e 1, .inl (X.cI, 40, .inl (M 1))), (e 2, .inl (X.cI, 4200, .inl (M 2))), (e 3, .inl (X.cI, 4207, .inl f5)), (e 4, .inl (X.cI, 2048, .inl f6)), (e 5, .inl (X.cI, 600, .inl (M 5)))] _ _ 188 _ []
      refine z_goto (tgt := 329) C dX6_ofOne_188 (by decide) ?_
      refine z_vret C E (by omega) (by omega) dX6_ofOne_329 ?_
      refine ⟨f5, f6, md2, fu2, ?_, rfl, rfl⟩
      rw [show oneL nl (M 1) 4 (M 3 (7 * i)) (M 3 (7 * i + 1)) (M 3 (7 * i + 2)) = _ from rfl]
      exact hR2
  · skip
    refine z_aload_n (q := 1) C 0 rfl rfl dX6_ofOne_0 rfl ?_
    refine z_get (q := 4) (v := .ref (e 3)) C hiX6 0 12 rfl rfl (by decide) hf23 rfl dX6_ofOne_1 rfl ?_
    refine z_bipush (q := 6) C k_bipush_7 dX6_ofOne_4 rfl ?_
    refine z_iload_n (q := 7) C 2 rfl rfl dX6_ofOne_6 rfl ?_
    refine z_imul (q := 8) C dX6_ofOne_7 rfl ?_
    refine z_eqi (y := nI (7 * i)) (pk_mul 7 i) ?_
    refine z_iald (q := 9) C 4 rfl (i := 7 * i) (by omega) (by decide) dX6_ofOne_8 rfl ?_
    refine z_istore (q := 11) (lv' := [(4, .int ((M 3) (7 * i))), (0, .ref hm), (1, .int (nI 6)), (2, .int (nI i)), (3, .int rd)]) C dX6_ofOne_9 rfl (by decide) rfl ?_
    refine z_aload_n (q := 12) C 1 rfl rfl dX6_ofOne_11 rfl ?_
    refine z_get (q := 15) (v := .ref (e 3)) C hiX6 0 12 rfl rfl (by decide) hf23 rfl dX6_ofOne_12 rfl ?_
    refine z_bipush (q := 17) C k_bipush_7 dX6_ofOne_15 rfl ?_
    refine z_iload_n (q := 18) C 3 rfl rfl dX6_ofOne_17 rfl ?_
    refine z_imul (q := 19) C dX6_ofOne_18 rfl ?_
    refine z_eqi (y := nI (7 * i)) (pk_mul 7 i) ?_
    refine z_iconst (q := 20) C k_iconst_1 dX6_ofOne_19 rfl ?_
    refine z_iadd (q := 21) C dX6_ofOne_20 rfl ?_
    refine z_eqi (y := nI ((7 * i) + 1)) (nI_add (7 * i) 1) ?_
    refine z_iald (q := 22) C 4 rfl (i := (7 * i) + 1) (by omega) (by decide) dX6_ofOne_21 rfl ?_
    refine z_istore (q := 24) (lv' := [(5, .int ((M 3) ((7 * i) + 1))), (4, .int ((M 3) (7 * i))), (0, .ref hm), (1, .int (nI 6)), (2, .int (nI i)), (3, .int rd)]) C dX6_ofOne_22 rfl (by decide) rfl ?_
    refine z_aload_n (q := 25) C 2 rfl rfl dX6_ofOne_24 rfl ?_
    refine z_get (q := 28) (v := .ref (e 3)) C hiX6 0 12 rfl rfl (by decide) hf23 rfl dX6_ofOne_25 rfl ?_
    refine z_bipush (q := 30) C k_bipush_7 dX6_ofOne_28 rfl ?_
    refine z_iload_n (q := 31) C 4 rfl rfl dX6_ofOne_30 rfl ?_
    refine z_imul (q := 32) C dX6_ofOne_31 rfl ?_
    refine z_eqi (y := nI (7 * i)) (pk_mul 7 i) ?_
    refine z_iconst (q := 33) C k_iconst_2 dX6_ofOne_32 rfl ?_
    refine z_iadd (q := 34) C dX6_ofOne_33 rfl ?_
    refine z_eqi (y := nI ((7 * i) + 2)) (nI_add (7 * i) 2) ?_
    refine z_iald (q := 35) C 4 rfl (i := (7 * i) + 2) (by omega) (by decide) dX6_ofOne_34 rfl ?_
    refine z_istore (q := 37) (lv' := [(6, .int ((M 3) ((7 * i) + 2))), (5, .int ((M 3) ((7 * i) + 1))), (4, .int ((M 3) (7 * i))), (0, .ref hm), (1, .int (nI 6)), (2, .int (nI i)), (3, .int rd)]) C dX6_ofOne_35 rfl (by decide) rfl ?_
    refine z_iload (q := 39) C 1 rfl dX6_ofOne_37 rfl ?_
    refine z_if_ne_z (q := 42) (tgt := 46) C dX6_ofOne_39 (by decide) rfl (fun c39 => ?_) (fun c39 => ?_)
    · skip
      refine z_iconst (q := 47) C k_iconst_0 dX6_ofOne_46 rfl ?_
      refine z_istore (q := 49) (lv' := [(7, .int (nI 0)), (6, .int ((M 3) ((7 * i) + 2))), (5, .int ((M 3) ((7 * i) + 1))), (4, .int ((M 3) (7 * i))), (0, .ref hm), (1, .int (nI 6)), (2, .int (nI i)), (3, .int rd)]) C dX6_ofOne_47 rfl (by decide) rfl ?_
      refine z_iload_n (q := 50) C 5 rfl rfl dX6_ofOne_49 rfl ?_
      refine z_tableIn (off := 141) (tgt := 191) C dX6_ofOne_50 (by decide) (by decide) (by decide) (by decide) ?_
      refine z_iload (q := 193) C 0 rfl dX6_ofOne_191 rfl ?_
      refine z_if_eq_n (q := 196) (tgt := 329) C (by omega) dX6_ofOne_193 (by decide) rfl (fun c193 => ?_) (fun c193 => ?_)
      · skip
        refine z_vret C E (by omega) (by omega) dX6_ofOne_329 ?_
        refine ⟨M 3, M 4, md, fu, ?_, rfl, rfl⟩
        rw [show oneL nl (M 1) 6 (M 3 (7 * i)) (M 3 (7 * i + 1)) (M 3 (7 * i + 2)) = _ from if_neg (fun z => c39 z.1)]
        exact hR
      · exact absurd c193 (by decide)
    · skip
      refine z_iconst (q := 43) C k_iconst_1 dX6_ofOne_42 rfl ?_
      refine z_goto (tgt := 47) C dX6_ofOne_43 (by decide) ?_
      refine z_istore (q := 49) (lv' := [(7, .int (nI 1)), (6, .int ((M 3) ((7 * i) + 2))), (5, .int ((M 3) ((7 * i) + 1))), (4, .int ((M 3) (7 * i))), (0, .ref hm), (1, .int (nI 6)), (2, .int (nI i)), (3, .int rd)]) C dX6_ofOne_47 rfl (by decide) rfl ?_
      refine z_iload_n (q := 50) C 5 rfl rfl dX6_ofOne_49 rfl ?_
      refine z_tableIn (off := 141) (tgt := 191) C dX6_ofOne_50 (by decide) (by decide) (by decide) (by decide) ?_
      refine z_iload (q := 193) C 0 rfl dX6_ofOne_191 rfl ?_
      refine z_if_eq_n (q := 196) (tgt := 329) C (by omega) dX6_ofOne_193 (by decide) rfl (fun c193 => ?_) (fun c193 => ?_)
      · exact absurd c193 (by decide)
      · skip
        refine z_iload (q := 198) C 1 rfl dX6_ofOne_196 rfl ?_
        refine z_iconst (q := 199) C k_iconst_1 dX6_ofOne_198 rfl ?_
        refine z_icmp_ne (q := 202) (tgt := 329) C dX6_ofOne_199 (by decide) rfl (fun c199 => ?_) (fun c199 => ?_)
        · skip
          refine z_vret C E (by omega) (by omega) dX6_ofOne_329 ?_
          refine ⟨M 3, M 4, md, fu, ?_, rfl, rfl⟩
          rw [show oneL nl (M 1) 6 (M 3 (7 * i)) (M 3 (7 * i + 1)) (M 3 (7 * i + 2)) = _ from if_neg (fun z => c199 z.2)]
          exact hR
        · skip
          refine z_aload_n (q := 203) C 4 rfl rfl dX6_ofOne_202 rfl ?_
          refine z_iload (q := 205) C 3 rfl dX6_ofOne_203 rfl ?_
          refine z_iconst (q := 206) C k_iconst_5 dX6_ofOne_205 rfl ?_
          refine z_iload (q := 208) C 3 rfl dX6_ofOne_206 rfl ?_
          refine z_bipush (q := 210) C k_bipush_6 dX6_ofOne_208 rfl ?_
          refine z_iload_n (q := 211) C 6 rfl rfl dX6_ofOne_210 rfl ?_
          refine z_iconst (q := 212) C k_iconst_m1 dX6_ofOne_211 rfl ?_
          refine z_iload_n (q := 213) C 7 rfl rfl dX6_ofOne_212 rfl ?_
          refine z_callV (q := 216) (n := 7) (As := [.int ((M 3) (7 * i)), .int (nI 5), .int ((M 3) (7 * i)), .int (nI 6), .int (nI i), .int (-1), .int rd]) (rest := []) (wr := []) C (c_X6_makes X.l X.D X.2.1 hm e M cd mb ak cnt k nl n m md fu hnl S hR ((M 3) (7 * i)) (nI 5) ((M 3) (7 * i)) (nI 6) (nI i) (-1) rd t0 (tok_n 5 (by omega)) t0) gX6_ofOne_X6_makes rfl rfl rfl (by decide +kernel) (by decide) ⟨by first | decide | omega, by first | decide | omega⟩ 0 6 rfl rfl [0, 1, 2, 3, 4, 5, 6] [] rfl rfl (by decide) (by decide) (by decide) rfl rfl (Nat.le_of_ble_eq_true rfl) dX6_ofOne_213 rfl (fun v w1 hp => ?_)
          obtain ⟨f3, f4, md1, fu1, hR1, rfl, rfl⟩ := hp
          show zW X 8 [(hm, .inr (6, [.int cd, .int (zb mb), .int (zb ak), .int (nI cnt), .int (nI k), .ref (e 0), .int (nI nl), .ref (e 1), .int (nI n), .ref (e 2), .int (nI m), .int (nI md1), .ref (e 3), .ref (e 4), .int (zb fu1), .ref (e 5)])), (e 0, .inl (X.cI, 240, .inl (M 0))), (e 1, .inl (X.cI, 40, .inl (M 1))), (e 2, .inl (X.cI, 4200, .inl (M 2))), (e 3, .inl (X.cI, 4207, .inl f3)), (e 4, .inl (X.cI, 2048, .inl f4)), (e 5, .inl (X.cI, 600, .inl (M 5)))] _ _ 216 _ []
          refine z_goto (tgt := 329) C dX6_ofOne_216 (by decide) ?_
          refine z_vret C E (by omega) (by omega) dX6_ofOne_329 ?_
          refine ⟨f3, f4, md1, fu1, ?_, rfl, rfl⟩
          rw [show oneL nl (M 1) 6 (M 3 (7 * i)) (M 3 (7 * i + 1)) (M 3 (7 * i + 2)) = _ from if_pos ⟨c39, c199⟩]
          exact hR1
  · skip
    refine z_aload_n (q := 1) C 0 rfl rfl dX6_ofOne_0 rfl ?_
    refine z_get (q := 4) (v := .ref (e 3)) C hiX6 0 12 rfl rfl (by decide) hf23 rfl dX6_ofOne_1 rfl ?_
    refine z_bipush (q := 6) C k_bipush_7 dX6_ofOne_4 rfl ?_
    refine z_iload_n (q := 7) C 2 rfl rfl dX6_ofOne_6 rfl ?_
    refine z_imul (q := 8) C dX6_ofOne_7 rfl ?_
    refine z_eqi (y := nI (7 * i)) (pk_mul 7 i) ?_
    refine z_iald (q := 9) C 4 rfl (i := 7 * i) (by omega) (by decide) dX6_ofOne_8 rfl ?_
    refine z_istore (q := 11) (lv' := [(4, .int ((M 3) (7 * i))), (0, .ref hm), (1, .int (nI 8)), (2, .int (nI i)), (3, .int rd)]) C dX6_ofOne_9 rfl (by decide) rfl ?_
    refine z_aload_n (q := 12) C 1 rfl rfl dX6_ofOne_11 rfl ?_
    refine z_get (q := 15) (v := .ref (e 3)) C hiX6 0 12 rfl rfl (by decide) hf23 rfl dX6_ofOne_12 rfl ?_
    refine z_bipush (q := 17) C k_bipush_7 dX6_ofOne_15 rfl ?_
    refine z_iload_n (q := 18) C 3 rfl rfl dX6_ofOne_17 rfl ?_
    refine z_imul (q := 19) C dX6_ofOne_18 rfl ?_
    refine z_eqi (y := nI (7 * i)) (pk_mul 7 i) ?_
    refine z_iconst (q := 20) C k_iconst_1 dX6_ofOne_19 rfl ?_
    refine z_iadd (q := 21) C dX6_ofOne_20 rfl ?_
    refine z_eqi (y := nI ((7 * i) + 1)) (nI_add (7 * i) 1) ?_
    refine z_iald (q := 22) C 4 rfl (i := (7 * i) + 1) (by omega) (by decide) dX6_ofOne_21 rfl ?_
    refine z_istore (q := 24) (lv' := [(5, .int ((M 3) ((7 * i) + 1))), (4, .int ((M 3) (7 * i))), (0, .ref hm), (1, .int (nI 8)), (2, .int (nI i)), (3, .int rd)]) C dX6_ofOne_22 rfl (by decide) rfl ?_
    refine z_aload_n (q := 25) C 2 rfl rfl dX6_ofOne_24 rfl ?_
    refine z_get (q := 28) (v := .ref (e 3)) C hiX6 0 12 rfl rfl (by decide) hf23 rfl dX6_ofOne_25 rfl ?_
    refine z_bipush (q := 30) C k_bipush_7 dX6_ofOne_28 rfl ?_
    refine z_iload_n (q := 31) C 4 rfl rfl dX6_ofOne_30 rfl ?_
    refine z_imul (q := 32) C dX6_ofOne_31 rfl ?_
    refine z_eqi (y := nI (7 * i)) (pk_mul 7 i) ?_
    refine z_iconst (q := 33) C k_iconst_2 dX6_ofOne_32 rfl ?_
    refine z_iadd (q := 34) C dX6_ofOne_33 rfl ?_
    refine z_eqi (y := nI ((7 * i) + 2)) (nI_add (7 * i) 2) ?_
    refine z_iald (q := 35) C 4 rfl (i := (7 * i) + 2) (by omega) (by decide) dX6_ofOne_34 rfl ?_
    refine z_istore (q := 37) (lv' := [(6, .int ((M 3) ((7 * i) + 2))), (5, .int ((M 3) ((7 * i) + 1))), (4, .int ((M 3) (7 * i))), (0, .ref hm), (1, .int (nI 8)), (2, .int (nI i)), (3, .int rd)]) C dX6_ofOne_35 rfl (by decide) rfl ?_
    refine z_iload (q := 39) C 1 rfl dX6_ofOne_37 rfl ?_
    refine z_if_ne_z (q := 42) (tgt := 46) C dX6_ofOne_39 (by decide) rfl (fun c39 => ?_) (fun c39 => ?_)
    · skip
      refine z_iconst (q := 47) C k_iconst_0 dX6_ofOne_46 rfl ?_
      refine z_istore (q := 49) (lv' := [(7, .int (nI 0)), (6, .int ((M 3) ((7 * i) + 2))), (5, .int ((M 3) ((7 * i) + 1))), (4, .int ((M 3) (7 * i))), (0, .ref hm), (1, .int (nI 8)), (2, .int (nI i)), (3, .int rd)]) C dX6_ofOne_47 rfl (by decide) rfl ?_
      refine z_iload_n (q := 50) C 5 rfl rfl dX6_ofOne_49 rfl ?_
      refine z_tableIn (off := 169) (tgt := 219) C dX6_ofOne_50 (by decide) (by decide) (by decide) (by decide) ?_
      refine z_iload (q := 221) C 0 rfl dX6_ofOne_219 rfl ?_
      refine z_if_eq_n (q := 224) (tgt := 329) C (by omega) dX6_ofOne_221 (by decide) rfl (fun c221 => ?_) (fun c221 => ?_)
      · skip
        refine z_vret C E (by omega) (by omega) dX6_ofOne_329 ?_
        refine ⟨M 3, M 4, md, fu, ?_, rfl, rfl⟩
        rw [show oneL nl (M 1) 8 (M 3 (7 * i)) (M 3 (7 * i + 1)) (M 3 (7 * i + 2)) = _ from if_neg (fun z => c39 z.1)]
        exact hR
      · exact absurd c221 (by decide)
    · skip
      refine z_iconst (q := 43) C k_iconst_1 dX6_ofOne_42 rfl ?_
      refine z_goto (tgt := 47) C dX6_ofOne_43 (by decide) ?_
      refine z_istore (q := 49) (lv' := [(7, .int (nI 1)), (6, .int ((M 3) ((7 * i) + 2))), (5, .int ((M 3) ((7 * i) + 1))), (4, .int ((M 3) (7 * i))), (0, .ref hm), (1, .int (nI 8)), (2, .int (nI i)), (3, .int rd)]) C dX6_ofOne_47 rfl (by decide) rfl ?_
      refine z_iload_n (q := 50) C 5 rfl rfl dX6_ofOne_49 rfl ?_
      refine z_tableIn (off := 169) (tgt := 219) C dX6_ofOne_50 (by decide) (by decide) (by decide) (by decide) ?_
      refine z_iload (q := 221) C 0 rfl dX6_ofOne_219 rfl ?_
      refine z_if_eq_n (q := 224) (tgt := 329) C (by omega) dX6_ofOne_221 (by decide) rfl (fun c221 => ?_) (fun c221 => ?_)
      · exact absurd c221 (by decide)
      · skip
        refine z_iload (q := 226) C 1 rfl dX6_ofOne_224 rfl ?_
        refine z_iconst (q := 227) C k_iconst_3 dX6_ofOne_226 rfl ?_
        refine z_icmp_ne (q := 230) (tgt := 329) C dX6_ofOne_227 (by decide) rfl (fun c227 => ?_) (fun c227 => ?_)
        · skip
          refine z_vret C E (by omega) (by omega) dX6_ofOne_329 ?_
          refine ⟨M 3, M 4, md, fu, ?_, rfl, rfl⟩
          rw [show oneL nl (M 1) 8 (M 3 (7 * i)) (M 3 (7 * i + 1)) (M 3 (7 * i + 2)) = _ from if_neg (fun z => c227 z.2)]
          exact hR
        · skip
          refine z_aload_n (q := 231) C 4 rfl rfl dX6_ofOne_230 rfl ?_
          refine z_iload (q := 233) C 3 rfl dX6_ofOne_231 rfl ?_
          refine z_iconst (q := 234) C k_iconst_4 dX6_ofOne_233 rfl ?_
          refine z_iconst (q := 235) C k_iconst_2 dX6_ofOne_234 rfl ?_
          refine z_bipush (q := 237) C k_bipush_8 dX6_ofOne_235 rfl ?_
          refine z_iload_n (q := 238) C 6 rfl rfl dX6_ofOne_237 rfl ?_
          refine z_iconst (q := 239) C k_iconst_m1 dX6_ofOne_238 rfl ?_
          refine z_iload_n (q := 240) C 7 rfl rfl dX6_ofOne_239 rfl ?_
          refine z_callV (q := 243) (n := 7) (As := [.int ((M 3) (7 * i)), .int (nI 4), .int (nI 2), .int (nI 8), .int (nI i), .int (-1), .int rd]) (rest := []) (wr := []) C (c_X6_makes X.l X.D X.2.1 hm e M cd mb ak cnt k nl n m md fu hnl S hR ((M 3) (7 * i)) (nI 4) (nI 2) (nI 8) (nI i) (-1) rd t0 (tok_n 4 (by omega)) (tok_n 2 (by omega))) gX6_ofOne_X6_makes rfl rfl rfl (by decide +kernel) (by decide) ⟨by first | decide | omega, by first | decide | omega⟩ 0 6 rfl rfl [0, 1, 2, 3, 4, 5, 6] [] rfl rfl (by decide) (by decide) (by decide) rfl rfl (Nat.le_of_ble_eq_true rfl) dX6_ofOne_240 rfl (fun v w1 hp => ?_)
          obtain ⟨f3, f4, md1, fu1, hR1, rfl, rfl⟩ := hp
          show zW X 8 [(hm, .inr (6, [.int cd, .int (zb mb), .int (zb ak), .int (nI cnt), .int (nI k), .ref (e 0), .int (nI nl), .ref (e 1), .int (nI n), .ref (e 2), .int (nI m), .int (nI md1), .ref (e 3), .ref (e 4), .int (zb fu1), .ref (e 5)])), (e 0, .inl (X.cI, 240, .inl (M 0))), (e 1, .inl (X.cI, 40, .inl (M 1))), (e 2, .inl (X.cI, 4200, .inl (M 2))), (e 3, .inl (X.cI, 4207, .inl f3)), (e 4, .inl (X.cI, 2048, .inl f4)), (e 5, .inl (X.cI, 600, .inl (M 5)))] _ _ 243 _ []
          refine z_goto (tgt := 329) C dX6_ofOne_243 (by decide) ?_
          refine z_vret C E (by omega) (by omega) dX6_ofOne_329 ?_
          refine ⟨f3, f4, md1, fu1, ?_, rfl, rfl⟩
          rw [show oneL nl (M 1) 8 (M 3 (7 * i)) (M 3 (7 * i + 1)) (M 3 (7 * i + 2)) = _ from if_pos ⟨c39, c227⟩]
          exact hR1
  · skip
    refine z_aload_n (q := 1) C 0 rfl rfl dX6_ofOne_0 rfl ?_
    refine z_get (q := 4) (v := .ref (e 3)) C hiX6 0 12 rfl rfl (by decide) hf23 rfl dX6_ofOne_1 rfl ?_
    refine z_bipush (q := 6) C k_bipush_7 dX6_ofOne_4 rfl ?_
    refine z_iload_n (q := 7) C 2 rfl rfl dX6_ofOne_6 rfl ?_
    refine z_imul (q := 8) C dX6_ofOne_7 rfl ?_
    refine z_eqi (y := nI (7 * i)) (pk_mul 7 i) ?_
    refine z_iald (q := 9) C 4 rfl (i := 7 * i) (by omega) (by decide) dX6_ofOne_8 rfl ?_
    refine z_istore (q := 11) (lv' := [(4, .int ((M 3) (7 * i))), (0, .ref hm), (1, .int (nI 10)), (2, .int (nI i)), (3, .int rd)]) C dX6_ofOne_9 rfl (by decide) rfl ?_
    refine z_aload_n (q := 12) C 1 rfl rfl dX6_ofOne_11 rfl ?_
    refine z_get (q := 15) (v := .ref (e 3)) C hiX6 0 12 rfl rfl (by decide) hf23 rfl dX6_ofOne_12 rfl ?_
    refine z_bipush (q := 17) C k_bipush_7 dX6_ofOne_15 rfl ?_
    refine z_iload_n (q := 18) C 3 rfl rfl dX6_ofOne_17 rfl ?_
    refine z_imul (q := 19) C dX6_ofOne_18 rfl ?_
    refine z_eqi (y := nI (7 * i)) (pk_mul 7 i) ?_
    refine z_iconst (q := 20) C k_iconst_1 dX6_ofOne_19 rfl ?_
    refine z_iadd (q := 21) C dX6_ofOne_20 rfl ?_
    refine z_eqi (y := nI ((7 * i) + 1)) (nI_add (7 * i) 1) ?_
    refine z_iald (q := 22) C 4 rfl (i := (7 * i) + 1) (by omega) (by decide) dX6_ofOne_21 rfl ?_
    refine z_istore (q := 24) (lv' := [(5, .int ((M 3) ((7 * i) + 1))), (4, .int ((M 3) (7 * i))), (0, .ref hm), (1, .int (nI 10)), (2, .int (nI i)), (3, .int rd)]) C dX6_ofOne_22 rfl (by decide) rfl ?_
    refine z_aload_n (q := 25) C 2 rfl rfl dX6_ofOne_24 rfl ?_
    refine z_get (q := 28) (v := .ref (e 3)) C hiX6 0 12 rfl rfl (by decide) hf23 rfl dX6_ofOne_25 rfl ?_
    refine z_bipush (q := 30) C k_bipush_7 dX6_ofOne_28 rfl ?_
    refine z_iload_n (q := 31) C 4 rfl rfl dX6_ofOne_30 rfl ?_
    refine z_imul (q := 32) C dX6_ofOne_31 rfl ?_
    refine z_eqi (y := nI (7 * i)) (pk_mul 7 i) ?_
    refine z_iconst (q := 33) C k_iconst_2 dX6_ofOne_32 rfl ?_
    refine z_iadd (q := 34) C dX6_ofOne_33 rfl ?_
    refine z_eqi (y := nI ((7 * i) + 2)) (nI_add (7 * i) 2) ?_
    refine z_iald (q := 35) C 4 rfl (i := (7 * i) + 2) (by omega) (by decide) dX6_ofOne_34 rfl ?_
    refine z_istore (q := 37) (lv' := [(6, .int ((M 3) ((7 * i) + 2))), (5, .int ((M 3) ((7 * i) + 1))), (4, .int ((M 3) (7 * i))), (0, .ref hm), (1, .int (nI 10)), (2, .int (nI i)), (3, .int rd)]) C dX6_ofOne_35 rfl (by decide) rfl ?_
    refine z_iload (q := 39) C 1 rfl dX6_ofOne_37 rfl ?_
    refine z_if_ne_z (q := 42) (tgt := 46) C dX6_ofOne_39 (by decide) rfl (fun c39 => ?_) (fun c39 => ?_)
    · skip
      refine z_iconst (q := 47) C k_iconst_0 dX6_ofOne_46 rfl ?_
      refine z_istore (q := 49) (lv' := [(7, .int (nI 0)), (6, .int ((M 3) ((7 * i) + 2))), (5, .int ((M 3) ((7 * i) + 1))), (4, .int ((M 3) (7 * i))), (0, .ref hm), (1, .int (nI 10)), (2, .int (nI i)), (3, .int rd)]) C dX6_ofOne_47 rfl (by decide) rfl ?_
      refine z_iload_n (q := 50) C 5 rfl rfl dX6_ofOne_49 rfl ?_
      refine z_tableIn (off := 196) (tgt := 246) C dX6_ofOne_50 (by decide) (by decide) (by decide) (by decide) ?_
      refine z_iload (q := 248) C 0 rfl dX6_ofOne_246 rfl ?_
      refine z_if_eq_n (q := 251) (tgt := 329) C (by omega) dX6_ofOne_248 (by decide) rfl (fun c248 => ?_) (fun c248 => ?_)
      · skip
        refine z_vret C E (by omega) (by omega) dX6_ofOne_329 ?_
        refine ⟨M 3, M 4, md, fu, ?_, rfl, rfl⟩
        rw [show oneL nl (M 1) 10 (M 3 (7 * i)) (M 3 (7 * i + 1)) (M 3 (7 * i + 2)) = _ from if_neg (fun z => c39 z.1)]
        exact hR
      · exact absurd c248 (by decide)
    · skip
      refine z_iconst (q := 43) C k_iconst_1 dX6_ofOne_42 rfl ?_
      refine z_goto (tgt := 47) C dX6_ofOne_43 (by decide) ?_
      refine z_istore (q := 49) (lv' := [(7, .int (nI 1)), (6, .int ((M 3) ((7 * i) + 2))), (5, .int ((M 3) ((7 * i) + 1))), (4, .int ((M 3) (7 * i))), (0, .ref hm), (1, .int (nI 10)), (2, .int (nI i)), (3, .int rd)]) C dX6_ofOne_47 rfl (by decide) rfl ?_
      refine z_iload_n (q := 50) C 5 rfl rfl dX6_ofOne_49 rfl ?_
      refine z_tableIn (off := 196) (tgt := 246) C dX6_ofOne_50 (by decide) (by decide) (by decide) (by decide) ?_
      refine z_iload (q := 248) C 0 rfl dX6_ofOne_246 rfl ?_
      refine z_if_eq_n (q := 251) (tgt := 329) C (by omega) dX6_ofOne_248 (by decide) rfl (fun c248 => ?_) (fun c248 => ?_)
      · exact absurd c248 (by decide)
      · skip
        refine z_iload (q := 253) C 1 rfl dX6_ofOne_251 rfl ?_
        refine z_iconst (q := 254) C k_iconst_3 dX6_ofOne_253 rfl ?_
        refine z_icmp_ne (q := 257) (tgt := 329) C dX6_ofOne_254 (by decide) rfl (fun c254 => ?_) (fun c254 => ?_)
        · skip
          refine z_vret C E (by omega) (by omega) dX6_ofOne_329 ?_
          refine ⟨M 3, M 4, md, fu, ?_, rfl, rfl⟩
          rw [show oneL nl (M 1) 10 (M 3 (7 * i)) (M 3 (7 * i + 1)) (M 3 (7 * i + 2)) = _ from if_neg (fun z => c254 z.2)]
          exact hR
        · skip
          refine z_aload_n (q := 258) C 4 rfl rfl dX6_ofOne_257 rfl ?_
          refine z_iload (q := 260) C 3 rfl dX6_ofOne_258 rfl ?_
          refine z_iconst (q := 261) C k_iconst_4 dX6_ofOne_260 rfl ?_
          refine z_iload (q := 263) C 3 rfl dX6_ofOne_261 rfl ?_
          refine z_bipush (q := 265) C k_bipush_10 dX6_ofOne_263 rfl ?_
          refine z_iload_n (q := 266) C 6 rfl rfl dX6_ofOne_265 rfl ?_
          refine z_iconst (q := 267) C k_iconst_m1 dX6_ofOne_266 rfl ?_
          refine z_iload_n (q := 268) C 7 rfl rfl dX6_ofOne_267 rfl ?_
          refine z_callV (q := 271) (n := 7) (As := [.int ((M 3) (7 * i)), .int (nI 4), .int ((M 3) (7 * i)), .int (nI 10), .int (nI i), .int (-1), .int rd]) (rest := []) (wr := []) C (c_X6_makes X.l X.D X.2.1 hm e M cd mb ak cnt k nl n m md fu hnl S hR ((M 3) (7 * i)) (nI 4) ((M 3) (7 * i)) (nI 10) (nI i) (-1) rd t0 (tok_n 4 (by omega)) t0) gX6_ofOne_X6_makes rfl rfl rfl (by decide +kernel) (by decide) ⟨by first | decide | omega, by first | decide | omega⟩ 0 6 rfl rfl [0, 1, 2, 3, 4, 5, 6] [] rfl rfl (by decide) (by decide) (by decide) rfl rfl (Nat.le_of_ble_eq_true rfl) dX6_ofOne_268 rfl (fun v w1 hp => ?_)
          obtain ⟨f3, f4, md1, fu1, hR1, rfl, rfl⟩ := hp
          show zW X 8 [(hm, .inr (6, [.int cd, .int (zb mb), .int (zb ak), .int (nI cnt), .int (nI k), .ref (e 0), .int (nI nl), .ref (e 1), .int (nI n), .ref (e 2), .int (nI m), .int (nI md1), .ref (e 3), .ref (e 4), .int (zb fu1), .ref (e 5)])), (e 0, .inl (X.cI, 240, .inl (M 0))), (e 1, .inl (X.cI, 40, .inl (M 1))), (e 2, .inl (X.cI, 4200, .inl (M 2))), (e 3, .inl (X.cI, 4207, .inl f3)), (e 4, .inl (X.cI, 2048, .inl f4)), (e 5, .inl (X.cI, 600, .inl (M 5)))] _ _ 271 _ []
          refine z_goto (tgt := 329) C dX6_ofOne_271 (by decide) ?_
          refine z_vret C E (by omega) (by omega) dX6_ofOne_329 ?_
          refine ⟨f3, f4, md1, fu1, ?_, rfl, rfl⟩
          rw [show oneL nl (M 1) 10 (M 3 (7 * i)) (M 3 (7 * i + 1)) (M 3 (7 * i + 2)) = _ from if_pos ⟨c39, c254⟩]
          exact hR1
  · skip
    refine z_aload_n (q := 1) C 0 rfl rfl dX6_ofOne_0 rfl ?_
    refine z_get (q := 4) (v := .ref (e 3)) C hiX6 0 12 rfl rfl (by decide) hf23 rfl dX6_ofOne_1 rfl ?_
    refine z_bipush (q := 6) C k_bipush_7 dX6_ofOne_4 rfl ?_
    refine z_iload_n (q := 7) C 2 rfl rfl dX6_ofOne_6 rfl ?_
    refine z_imul (q := 8) C dX6_ofOne_7 rfl ?_
    refine z_eqi (y := nI (7 * i)) (pk_mul 7 i) ?_
    refine z_iald (q := 9) C 4 rfl (i := 7 * i) (by omega) (by decide) dX6_ofOne_8 rfl ?_
    refine z_istore (q := 11) (lv' := [(4, .int ((M 3) (7 * i))), (0, .ref hm), (1, .int (nI 12)), (2, .int (nI i)), (3, .int rd)]) C dX6_ofOne_9 rfl (by decide) rfl ?_
    refine z_aload_n (q := 12) C 1 rfl rfl dX6_ofOne_11 rfl ?_
    refine z_get (q := 15) (v := .ref (e 3)) C hiX6 0 12 rfl rfl (by decide) hf23 rfl dX6_ofOne_12 rfl ?_
    refine z_bipush (q := 17) C k_bipush_7 dX6_ofOne_15 rfl ?_
    refine z_iload_n (q := 18) C 3 rfl rfl dX6_ofOne_17 rfl ?_
    refine z_imul (q := 19) C dX6_ofOne_18 rfl ?_
    refine z_eqi (y := nI (7 * i)) (pk_mul 7 i) ?_
    refine z_iconst (q := 20) C k_iconst_1 dX6_ofOne_19 rfl ?_
    refine z_iadd (q := 21) C dX6_ofOne_20 rfl ?_
    refine z_eqi (y := nI ((7 * i) + 1)) (nI_add (7 * i) 1) ?_
    refine z_iald (q := 22) C 4 rfl (i := (7 * i) + 1) (by omega) (by decide) dX6_ofOne_21 rfl ?_
    refine z_istore (q := 24) (lv' := [(5, .int ((M 3) ((7 * i) + 1))), (4, .int ((M 3) (7 * i))), (0, .ref hm), (1, .int (nI 12)), (2, .int (nI i)), (3, .int rd)]) C dX6_ofOne_22 rfl (by decide) rfl ?_
    refine z_aload_n (q := 25) C 2 rfl rfl dX6_ofOne_24 rfl ?_
    refine z_get (q := 28) (v := .ref (e 3)) C hiX6 0 12 rfl rfl (by decide) hf23 rfl dX6_ofOne_25 rfl ?_
    refine z_bipush (q := 30) C k_bipush_7 dX6_ofOne_28 rfl ?_
    refine z_iload_n (q := 31) C 4 rfl rfl dX6_ofOne_30 rfl ?_
    refine z_imul (q := 32) C dX6_ofOne_31 rfl ?_
    refine z_eqi (y := nI (7 * i)) (pk_mul 7 i) ?_
    refine z_iconst (q := 33) C k_iconst_2 dX6_ofOne_32 rfl ?_
    refine z_iadd (q := 34) C dX6_ofOne_33 rfl ?_
    refine z_eqi (y := nI ((7 * i) + 2)) (nI_add (7 * i) 2) ?_
    refine z_iald (q := 35) C 4 rfl (i := (7 * i) + 2) (by omega) (by decide) dX6_ofOne_34 rfl ?_
    refine z_istore (q := 37) (lv' := [(6, .int ((M 3) ((7 * i) + 2))), (5, .int ((M 3) ((7 * i) + 1))), (4, .int ((M 3) (7 * i))), (0, .ref hm), (1, .int (nI 12)), (2, .int (nI i)), (3, .int rd)]) C dX6_ofOne_35 rfl (by decide) rfl ?_
    refine z_iload (q := 39) C 1 rfl dX6_ofOne_37 rfl ?_
    refine z_if_ne_z (q := 42) (tgt := 46) C dX6_ofOne_39 (by decide) rfl (fun c39 => ?_) (fun c39 => ?_)
    · skip
      refine z_iconst (q := 47) C k_iconst_0 dX6_ofOne_46 rfl ?_
      refine z_istore (q := 49) (lv' := [(7, .int (nI 0)), (6, .int ((M 3) ((7 * i) + 2))), (5, .int ((M 3) ((7 * i) + 1))), (4, .int ((M 3) (7 * i))), (0, .ref hm), (1, .int (nI 12)), (2, .int (nI i)), (3, .int rd)]) C dX6_ofOne_47 rfl (by decide) rfl ?_
      refine z_iload_n (q := 50) C 5 rfl rfl dX6_ofOne_49 rfl ?_
      refine z_tableIn (off := 224) (tgt := 274) C dX6_ofOne_50 (by decide) (by decide) (by decide) (by decide) ?_
      refine z_iload (q := 276) C 0 rfl dX6_ofOne_274 rfl ?_
      refine z_if_eq_n (q := 279) (tgt := 329) C (by omega) dX6_ofOne_276 (by decide) rfl (fun c276 => ?_) (fun c276 => ?_)
      · skip
        refine z_vret C E (by omega) (by omega) dX6_ofOne_329 ?_
        refine ⟨M 3, M 4, md, fu, ?_, rfl, rfl⟩
        rw [show oneL nl (M 1) 12 (M 3 (7 * i)) (M 3 (7 * i + 1)) (M 3 (7 * i + 2)) = _ from if_neg (fun z => c39 z.1)]
        exact hR
      · exact absurd c276 (by decide)
    · skip
      refine z_iconst (q := 43) C k_iconst_1 dX6_ofOne_42 rfl ?_
      refine z_goto (tgt := 47) C dX6_ofOne_43 (by decide) ?_
      refine z_istore (q := 49) (lv' := [(7, .int (nI 1)), (6, .int ((M 3) ((7 * i) + 2))), (5, .int ((M 3) ((7 * i) + 1))), (4, .int ((M 3) (7 * i))), (0, .ref hm), (1, .int (nI 12)), (2, .int (nI i)), (3, .int rd)]) C dX6_ofOne_47 rfl (by decide) rfl ?_
      refine z_iload_n (q := 50) C 5 rfl rfl dX6_ofOne_49 rfl ?_
      refine z_tableIn (off := 224) (tgt := 274) C dX6_ofOne_50 (by decide) (by decide) (by decide) (by decide) ?_
      refine z_iload (q := 276) C 0 rfl dX6_ofOne_274 rfl ?_
      refine z_if_eq_n (q := 279) (tgt := 329) C (by omega) dX6_ofOne_276 (by decide) rfl (fun c276 => ?_) (fun c276 => ?_)
      · exact absurd c276 (by decide)
      · skip
        refine z_iload (q := 281) C 1 rfl dX6_ofOne_279 rfl ?_
        refine z_bipush (q := 283) C k_bipush_11 dX6_ofOne_281 rfl ?_
        refine z_icmp_ne (q := 286) (tgt := 329) C dX6_ofOne_283 (by decide) rfl (fun c283 => ?_) (fun c283 => ?_)
        · skip
          refine z_vret C E (by omega) (by omega) dX6_ofOne_329 ?_
          refine ⟨M 3, M 4, md, fu, ?_, rfl, rfl⟩
          rw [show oneL nl (M 1) 12 (M 3 (7 * i)) (M 3 (7 * i + 1)) (M 3 (7 * i + 2)) = _ from if_neg (fun z => c283 z.2)]
          exact hR
        · skip
          refine z_aload_n (q := 287) C 4 rfl rfl dX6_ofOne_286 rfl ?_
          refine z_iload (q := 289) C 3 rfl dX6_ofOne_287 rfl ?_
          refine z_iconst (q := 290) C k_iconst_5 dX6_ofOne_289 rfl ?_
          refine z_bipush (q := 292) C k_bipush_10 dX6_ofOne_290 rfl ?_
          refine z_bipush (q := 294) C k_bipush_12 dX6_ofOne_292 rfl ?_
          refine z_iload_n (q := 295) C 6 rfl rfl dX6_ofOne_294 rfl ?_
          refine z_iconst (q := 296) C k_iconst_m1 dX6_ofOne_295 rfl ?_
          refine z_iload_n (q := 297) C 7 rfl rfl dX6_ofOne_296 rfl ?_
          refine z_callV (q := 300) (n := 7) (As := [.int ((M 3) (7 * i)), .int (nI 5), .int (nI 10), .int (nI 12), .int (nI i), .int (-1), .int rd]) (rest := []) (wr := []) C (c_X6_makes X.l X.D X.2.1 hm e M cd mb ak cnt k nl n m md fu hnl S hR ((M 3) (7 * i)) (nI 5) (nI 10) (nI 12) (nI i) (-1) rd t0 (tok_n 5 (by omega)) (tok_n 10 (by omega))) gX6_ofOne_X6_makes rfl rfl rfl (by decide +kernel) (by decide) ⟨by first | decide | omega, by first | decide | omega⟩ 0 6 rfl rfl [0, 1, 2, 3, 4, 5, 6] [] rfl rfl (by decide) (by decide) (by decide) rfl rfl (Nat.le_of_ble_eq_true rfl) dX6_ofOne_297 rfl (fun v w1 hp => ?_)
          obtain ⟨f3, f4, md1, fu1, hR1, rfl, rfl⟩ := hp
          show zW X 8 [(hm, .inr (6, [.int cd, .int (zb mb), .int (zb ak), .int (nI cnt), .int (nI k), .ref (e 0), .int (nI nl), .ref (e 1), .int (nI n), .ref (e 2), .int (nI m), .int (nI md1), .ref (e 3), .ref (e 4), .int (zb fu1), .ref (e 5)])), (e 0, .inl (X.cI, 240, .inl (M 0))), (e 1, .inl (X.cI, 40, .inl (M 1))), (e 2, .inl (X.cI, 4200, .inl (M 2))), (e 3, .inl (X.cI, 4207, .inl f3)), (e 4, .inl (X.cI, 2048, .inl f4)), (e 5, .inl (X.cI, 600, .inl (M 5)))] _ _ 300 _ []
          refine z_goto (tgt := 329) C dX6_ofOne_300 (by decide) ?_
          refine z_vret C E (by omega) (by omega) dX6_ofOne_329 ?_
          refine ⟨f3, f4, md1, fu1, ?_, rfl, rfl⟩
          rw [show oneL nl (M 1) 12 (M 3 (7 * i)) (M 3 (7 * i + 1)) (M 3 (7 * i + 2)) = _ from if_pos ⟨c39, c283⟩]
          exact hR1
  · skip
    refine z_aload_n (q := 1) C 0 rfl rfl dX6_ofOne_0 rfl ?_
    refine z_get (q := 4) (v := .ref (e 3)) C hiX6 0 12 rfl rfl (by decide) hf23 rfl dX6_ofOne_1 rfl ?_
    refine z_bipush (q := 6) C k_bipush_7 dX6_ofOne_4 rfl ?_
    refine z_iload_n (q := 7) C 2 rfl rfl dX6_ofOne_6 rfl ?_
    refine z_imul (q := 8) C dX6_ofOne_7 rfl ?_
    refine z_eqi (y := nI (7 * i)) (pk_mul 7 i) ?_
    refine z_iald (q := 9) C 4 rfl (i := 7 * i) (by omega) (by decide) dX6_ofOne_8 rfl ?_
    refine z_istore (q := 11) (lv' := [(4, .int ((M 3) (7 * i))), (0, .ref hm), (1, .int (nI 13)), (2, .int (nI i)), (3, .int rd)]) C dX6_ofOne_9 rfl (by decide) rfl ?_
    refine z_aload_n (q := 12) C 1 rfl rfl dX6_ofOne_11 rfl ?_
    refine z_get (q := 15) (v := .ref (e 3)) C hiX6 0 12 rfl rfl (by decide) hf23 rfl dX6_ofOne_12 rfl ?_
    refine z_bipush (q := 17) C k_bipush_7 dX6_ofOne_15 rfl ?_
    refine z_iload_n (q := 18) C 3 rfl rfl dX6_ofOne_17 rfl ?_
    refine z_imul (q := 19) C dX6_ofOne_18 rfl ?_
    refine z_eqi (y := nI (7 * i)) (pk_mul 7 i) ?_
    refine z_iconst (q := 20) C k_iconst_1 dX6_ofOne_19 rfl ?_
    refine z_iadd (q := 21) C dX6_ofOne_20 rfl ?_
    refine z_eqi (y := nI ((7 * i) + 1)) (nI_add (7 * i) 1) ?_
    refine z_iald (q := 22) C 4 rfl (i := (7 * i) + 1) (by omega) (by decide) dX6_ofOne_21 rfl ?_
    refine z_istore (q := 24) (lv' := [(5, .int ((M 3) ((7 * i) + 1))), (4, .int ((M 3) (7 * i))), (0, .ref hm), (1, .int (nI 13)), (2, .int (nI i)), (3, .int rd)]) C dX6_ofOne_22 rfl (by decide) rfl ?_
    refine z_aload_n (q := 25) C 2 rfl rfl dX6_ofOne_24 rfl ?_
    refine z_get (q := 28) (v := .ref (e 3)) C hiX6 0 12 rfl rfl (by decide) hf23 rfl dX6_ofOne_25 rfl ?_
    refine z_bipush (q := 30) C k_bipush_7 dX6_ofOne_28 rfl ?_
    refine z_iload_n (q := 31) C 4 rfl rfl dX6_ofOne_30 rfl ?_
    refine z_imul (q := 32) C dX6_ofOne_31 rfl ?_
    refine z_eqi (y := nI (7 * i)) (pk_mul 7 i) ?_
    refine z_iconst (q := 33) C k_iconst_2 dX6_ofOne_32 rfl ?_
    refine z_iadd (q := 34) C dX6_ofOne_33 rfl ?_
    refine z_eqi (y := nI ((7 * i) + 2)) (nI_add (7 * i) 2) ?_
    refine z_iald (q := 35) C 4 rfl (i := (7 * i) + 2) (by omega) (by decide) dX6_ofOne_34 rfl ?_
    refine z_istore (q := 37) (lv' := [(6, .int ((M 3) ((7 * i) + 2))), (5, .int ((M 3) ((7 * i) + 1))), (4, .int ((M 3) (7 * i))), (0, .ref hm), (1, .int (nI 13)), (2, .int (nI i)), (3, .int rd)]) C dX6_ofOne_35 rfl (by decide) rfl ?_
    refine z_iload (q := 39) C 1 rfl dX6_ofOne_37 rfl ?_
    refine z_if_ne_z (q := 42) (tgt := 46) C dX6_ofOne_39 (by decide) rfl (fun c39 => ?_) (fun c39 => ?_)
    · skip
      refine z_iconst (q := 47) C k_iconst_0 dX6_ofOne_46 rfl ?_
      refine z_istore (q := 49) (lv' := [(7, .int (nI 0)), (6, .int ((M 3) ((7 * i) + 2))), (5, .int ((M 3) ((7 * i) + 1))), (4, .int ((M 3) (7 * i))), (0, .ref hm), (1, .int (nI 13)), (2, .int (nI i)), (3, .int rd)]) C dX6_ofOne_47 rfl (by decide) rfl ?_
      refine z_iload_n (q := 50) C 5 rfl rfl dX6_ofOne_49 rfl ?_
      refine z_tableOut (tgt := 303) C dX6_ofOne_50 (by decide) (by decide) ?_
      refine z_iload (q := 305) C 0 rfl dX6_ofOne_303 rfl ?_
      refine z_if_eq_n (q := 308) (tgt := 329) C (by omega) dX6_ofOne_305 (by decide) rfl (fun c305 => ?_) (fun c305 => ?_)
      · skip
        refine z_vret C E (by omega) (by omega) dX6_ofOne_329 ?_
        refine ⟨M 3, M 4, md, fu, ?_, rfl, rfl⟩
        rw [show oneL nl (M 1) 13 (M 3 (7 * i)) (M 3 (7 * i + 1)) (M 3 (7 * i + 2)) = _ from if_neg (fun z => c39 z.1)]
        exact hR
      · exact absurd c305 (by decide)
    · skip
      refine z_iconst (q := 43) C k_iconst_1 dX6_ofOne_42 rfl ?_
      refine z_goto (tgt := 47) C dX6_ofOne_43 (by decide) ?_
      refine z_istore (q := 49) (lv' := [(7, .int (nI 1)), (6, .int ((M 3) ((7 * i) + 2))), (5, .int ((M 3) ((7 * i) + 1))), (4, .int ((M 3) (7 * i))), (0, .ref hm), (1, .int (nI 13)), (2, .int (nI i)), (3, .int rd)]) C dX6_ofOne_47 rfl (by decide) rfl ?_
      refine z_iload_n (q := 50) C 5 rfl rfl dX6_ofOne_49 rfl ?_
      refine z_tableOut (tgt := 303) C dX6_ofOne_50 (by decide) (by decide) ?_
      refine z_iload (q := 305) C 0 rfl dX6_ofOne_303 rfl ?_
      refine z_if_eq_n (q := 308) (tgt := 329) C (by omega) dX6_ofOne_305 (by decide) rfl (fun c305 => ?_) (fun c305 => ?_)
      · exact absurd c305 (by decide)
      · skip
        refine z_iload (q := 310) C 1 rfl dX6_ofOne_308 rfl ?_
        refine z_bipush (q := 312) C k_bipush_9 dX6_ofOne_310 rfl ?_
        refine z_icmp_ne (q := 315) (tgt := 329) C dX6_ofOne_312 (by decide) rfl (fun c312 => ?_) (fun c312 => ?_)
        · skip
          refine z_vret C E (by omega) (by omega) dX6_ofOne_329 ?_
          refine ⟨M 3, M 4, md, fu, ?_, rfl, rfl⟩
          rw [show oneL nl (M 1) 13 (M 3 (7 * i)) (M 3 (7 * i + 1)) (M 3 (7 * i + 2)) = _ from if_neg (fun z => c312 z.2)]
          exact hR
        · skip
          refine z_aload_n (q := 316) C 4 rfl rfl dX6_ofOne_315 rfl ?_
          refine z_iload (q := 318) C 3 rfl dX6_ofOne_316 rfl ?_
          refine z_iconst (q := 319) C k_iconst_4 dX6_ofOne_318 rfl ?_
          refine z_bipush (q := 321) C k_bipush_8 dX6_ofOne_319 rfl ?_
          refine z_bipush (q := 323) C k_bipush_13 dX6_ofOne_321 rfl ?_
          refine z_iload_n (q := 324) C 6 rfl rfl dX6_ofOne_323 rfl ?_
          refine z_iconst (q := 325) C k_iconst_m1 dX6_ofOne_324 rfl ?_
          refine z_iload_n (q := 326) C 7 rfl rfl dX6_ofOne_325 rfl ?_
          refine z_callV (q := 329) (n := 7) (As := [.int ((M 3) (7 * i)), .int (nI 4), .int (nI 8), .int (nI 13), .int (nI i), .int (-1), .int rd]) (rest := []) (wr := []) C (c_X6_makes X.l X.D X.2.1 hm e M cd mb ak cnt k nl n m md fu hnl S hR ((M 3) (7 * i)) (nI 4) (nI 8) (nI 13) (nI i) (-1) rd t0 (tok_n 4 (by omega)) (tok_n 8 (by omega))) gX6_ofOne_X6_makes rfl rfl rfl (by decide +kernel) (by decide) ⟨by first | decide | omega, by first | decide | omega⟩ 0 6 rfl rfl [0, 1, 2, 3, 4, 5, 6] [] rfl rfl (by decide) (by decide) (by decide) rfl rfl (Nat.le_of_ble_eq_true rfl) dX6_ofOne_326 rfl (fun v w1 hp => ?_)
          obtain ⟨f3, f4, md1, fu1, hR1, rfl, rfl⟩ := hp
          show zW X 8 [(hm, .inr (6, [.int cd, .int (zb mb), .int (zb ak), .int (nI cnt), .int (nI k), .ref (e 0), .int (nI nl), .ref (e 1), .int (nI n), .ref (e 2), .int (nI m), .int (nI md1), .ref (e 3), .ref (e 4), .int (zb fu1), .ref (e 5)])), (e 0, .inl (X.cI, 240, .inl (M 0))), (e 1, .inl (X.cI, 40, .inl (M 1))), (e 2, .inl (X.cI, 4200, .inl (M 2))), (e 3, .inl (X.cI, 4207, .inl f3)), (e 4, .inl (X.cI, 2048, .inl f4)), (e 5, .inl (X.cI, 600, .inl (M 5)))] _ _ 329 _ []
          refine z_vret C E (by omega) (by omega) dX6_ofOne_329 ?_
          refine ⟨f3, f4, md1, fu1, ?_, rfl, rfl⟩
          rw [show oneL nl (M 1) 13 (M 3 (7 * i)) (M 3 (7 * i + 1)) (M 3 (7 * i + 2)) = _ from if_pos ⟨c39, c312⟩]
          exact hR1

set_option maxHeartbeats 4000000 in
set_option maxRecDepth 100000 in
theorem c_X6_ofTwo (l : Launch) (D : va_G) (g : ClassId × ClassId × ClassId) (hm : Nat) (e : Nat → Nat) (M : Nat → Nat → Int32) (cd : Int32) (mb ak : Bool) (cnt k nl n m md : Nat) (fu : Bool) (hnl : nl ≤ 40) (S : RSt) (hR : mRep (M 3) (M 4) md fu S) (rule i j : Nat) (rd : Int32) (hi : i < md) (hj : j < md) (hT : TOK nl S.1) (hru : rule = 2 ∨ rule = 3 ∨ rule = 5 ∨ rule = 7 ∨ rule = 9 ∨ rule = 11) : zM l yX6_ofTwo wsX6_ofTwo ({ frames := 2, cells := 0, slots := 0, locals := 53 } : Room) D g [.ref hm, .int (nI rule), .int (nI i), .int (nI j), .int rd] [(hm, .inr (6, [.int cd, .int (zb mb), .int (zb ak), .int (nI cnt), .int (nI k), .ref (e 0), .int (nI nl), .ref (e 1), .int (nI n), .ref (e 2), .int (nI m), .int (nI md), .ref (e 3), .ref (e 4), .int (zb fu), .ref (e 5)])), (e 0, .inl (g.1, 240, .inl (M 0))), (e 1, .inl (g.1, 40, .inl (M 1))), (e 2, .inl (g.1, 4200, .inl (M 2))), (e 3, .inl (g.1, 4207, .inl (M 3))), (e 4, .inl (g.1, 2048, .inl (M 4))), (e 5, .inl (g.1, 600, .inl (M 5)))] 0 0 (fun v w1 => ∃ (f3 f4 : Nat → Int32) (md1 : Nat) (fu1 : Bool), mRep f3 f4 md1 fu1 (addL S rule (nI i) (nI j) rd (twoL nl rule (M 3 (7 * i)) (M 3 (7 * i + 2)) (M 3 (7 * j)) (M 3 (7 * j + 1)) (M 3 (7 * j + 2)))) ∧ v = none ∧ w1 = [(hm, .inr (6, [.int cd, .int (zb mb), .int (zb ak), .int (nI cnt), .int (nI k), .ref (e 0), .int (nI nl), .ref (e 1), .int (nI n), .ref (e 2), .int (nI m), .int (nI md1), .ref (e 3), .ref (e 4), .int (zb fu1), .ref (e 5)])), (e 0, .inl (g.1, 240, .inl (M 0))), (e 1, .inl (g.1, 40, .inl (M 1))), (e 2, .inl (g.1, 4200, .inl (M 2))), (e 3, .inl (g.1, 4207, .inl f3)), (e 4, .inl (g.1, 2048, .inl f4)), (e 5, .inl (g.1, 600, .inl (M 5)))]) := by
  refine z_met (cc := cX6_ofTwo) (maxL := 10) (ret := none) (lv := [(0, .ref hm), (1, .int (nI rule)), (2, .int (nI i)), (3, .int (nI j)), (4, .int rd)]) (by decide) rfl (Nat.le_of_ble_eq_true rfl) rfl ?_
  intro X hXD hXg hXl hnm C E
  subst hXD hXg hXl
  have C : zC X cX6_ofTwo 10 RX6 wsX6_ofTwo ({ frames := 2, cells := 0, slots := 0, locals := 53 } : Room) := C
  have hiX6 : ∀ w ∈ u_ws RX6 TX6 16, w ∈ wsX6_ofTwo := by decide +kernel
  have hf23 : Cond.fieldLink RX6 23 "RdfsRulesModel" "fresh" "[I" ∈ wsX6_ofTwo := by decide +kernel
  have hn6 := hR.2.1
  have t0 : tok nl (M 3 (7 * i)) := by rw [show M 3 (7 * i) = S.1.getD i r0 0 from hR.2.2.2.2.1 i 0 hi (by omega)]; exact hT i 0 (by rw [hR.1]; exact hi) (by omega)
  have t2 : tok nl (M 3 (7 * i + 2)) := by rw [hR.2.2.2.2.1 i 2 hi (by omega)]; exact hT i 2 (by rw [hR.1]; exact hi) (by omega)
  have u0 : tok nl (M 3 (7 * j)) := by rw [show M 3 (7 * j) = S.1.getD j r0 0 from hR.2.2.2.2.1 j 0 hj (by omega)]; exact hT j 0 (by rw [hR.1]; exact hj) (by omega)
  have u1 : tok nl (M 3 (7 * j + 1)) := by rw [hR.2.2.2.2.1 j 1 hj (by omega)]; exact hT j 1 (by rw [hR.1]; exact hj) (by omega)
  have u2 : tok nl (M 3 (7 * j + 2)) := by rw [hR.2.2.2.2.1 j 2 hj (by omega)]; exact hT j 2 (by rw [hR.1]; exact hj) (by omega)
  rcases hru with rfl | rfl | rfl | rfl | rfl | rfl
  · skip
    refine z_aload_n (q := 1) C 0 rfl rfl dX6_ofTwo_0 rfl ?_
    refine z_get (q := 4) (v := .ref (e 3)) C hiX6 0 12 rfl rfl (by decide) hf23 rfl dX6_ofTwo_1 rfl ?_
    refine z_bipush (q := 6) C k_bipush_7 dX6_ofTwo_4 rfl ?_
    refine z_iload_n (q := 7) C 2 rfl rfl dX6_ofTwo_6 rfl ?_
    refine z_imul (q := 8) C dX6_ofTwo_7 rfl ?_
    refine z_eqi (y := nI (7 * i)) (pk_mul 7 i) ?_
    refine z_iald (q := 9) C 4 rfl (i := 7 * i) (by omega) (by decide) dX6_ofTwo_8 rfl ?_
    refine z_istore (q := 11) (lv' := [(5, .int ((M 3) (7 * i))), (0, .ref hm), (1, .int (nI 2)), (2, .int (nI i)), (3, .int (nI j)), (4, .int rd)]) C dX6_ofTwo_9 rfl (by decide) rfl ?_
    refine z_aload_n (q := 12) C 1 rfl rfl dX6_ofTwo_11 rfl ?_
    refine z_get (q := 15) (v := .ref (e 3)) C hiX6 0 12 rfl rfl (by decide) hf23 rfl dX6_ofTwo_12 rfl ?_
    refine z_bipush (q := 17) C k_bipush_7 dX6_ofTwo_15 rfl ?_
    refine z_iload_n (q := 18) C 3 rfl rfl dX6_ofTwo_17 rfl ?_
    refine z_imul (q := 19) C dX6_ofTwo_18 rfl ?_
    refine z_eqi (y := nI (7 * i)) (pk_mul 7 i) ?_
    refine z_iconst (q := 20) C k_iconst_2 dX6_ofTwo_19 rfl ?_
    refine z_iadd (q := 21) C dX6_ofTwo_20 rfl ?_
    refine z_eqi (y := nI ((7 * i) + 2)) (nI_add (7 * i) 2) ?_
    refine z_iald (q := 22) C 4 rfl (i := (7 * i) + 2) (by omega) (by decide) dX6_ofTwo_21 rfl ?_
    refine z_istore (q := 24) (lv' := [(6, .int ((M 3) ((7 * i) + 2))), (5, .int ((M 3) (7 * i))), (0, .ref hm), (1, .int (nI 2)), (2, .int (nI i)), (3, .int (nI j)), (4, .int rd)]) C dX6_ofTwo_22 rfl (by decide) rfl ?_
    refine z_aload_n (q := 25) C 2 rfl rfl dX6_ofTwo_24 rfl ?_
    refine z_get (q := 28) (v := .ref (e 3)) C hiX6 0 12 rfl rfl (by decide) hf23 rfl dX6_ofTwo_25 rfl ?_
    refine z_bipush (q := 30) C k_bipush_7 dX6_ofTwo_28 rfl ?_
    refine z_iload_n (q := 31) C 5 rfl rfl dX6_ofTwo_30 rfl ?_
    refine z_imul (q := 32) C dX6_ofTwo_31 rfl ?_
    refine z_eqi (y := nI (7 * j)) (pk_mul 7 j) ?_
    refine z_iald (q := 33) C 4 rfl (i := 7 * j) (by omega) (by decide) dX6_ofTwo_32 rfl ?_
    refine z_istore (q := 35) (lv' := [(7, .int ((M 3) (7 * j))), (6, .int ((M 3) ((7 * i) + 2))), (5, .int ((M 3) (7 * i))), (0, .ref hm), (1, .int (nI 2)), (2, .int (nI i)), (3, .int (nI j)), (4, .int rd)]) C dX6_ofTwo_33 rfl (by decide) rfl ?_
    refine z_aload_n (q := 36) C 3 rfl rfl dX6_ofTwo_35 rfl ?_
    refine z_get (q := 39) (v := .ref (e 3)) C hiX6 0 12 rfl rfl (by decide) hf23 rfl dX6_ofTwo_36 rfl ?_
    refine z_bipush (q := 41) C k_bipush_7 dX6_ofTwo_39 rfl ?_
    refine z_iload_n (q := 42) C 6 rfl rfl dX6_ofTwo_41 rfl ?_
    refine z_imul (q := 43) C dX6_ofTwo_42 rfl ?_
    refine z_eqi (y := nI (7 * j)) (pk_mul 7 j) ?_
    refine z_iconst (q := 44) C k_iconst_1 dX6_ofTwo_43 rfl ?_
    refine z_iadd (q := 45) C dX6_ofTwo_44 rfl ?_
    refine z_eqi (y := nI ((7 * j) + 1)) (nI_add (7 * j) 1) ?_
    refine z_iald (q := 46) C 4 rfl (i := (7 * j) + 1) (by omega) (by decide) dX6_ofTwo_45 rfl ?_
    refine z_istore (q := 48) (lv' := [(8, .int ((M 3) ((7 * j) + 1))), (7, .int ((M 3) (7 * j))), (6, .int ((M 3) ((7 * i) + 2))), (5, .int ((M 3) (7 * i))), (0, .ref hm), (1, .int (nI 2)), (2, .int (nI i)), (3, .int (nI j)), (4, .int rd)]) C dX6_ofTwo_46 rfl (by decide) rfl ?_
    refine z_aload_n (q := 49) C 4 rfl rfl dX6_ofTwo_48 rfl ?_
    refine z_get (q := 52) (v := .ref (e 3)) C hiX6 0 12 rfl rfl (by decide) hf23 rfl dX6_ofTwo_49 rfl ?_
    refine z_bipush (q := 54) C k_bipush_7 dX6_ofTwo_52 rfl ?_
    refine z_iload_n (q := 55) C 7 rfl rfl dX6_ofTwo_54 rfl ?_
    refine z_imul (q := 56) C dX6_ofTwo_55 rfl ?_
    refine z_eqi (y := nI (7 * j)) (pk_mul 7 j) ?_
    refine z_iconst (q := 57) C k_iconst_2 dX6_ofTwo_56 rfl ?_
    refine z_iadd (q := 58) C dX6_ofTwo_57 rfl ?_
    refine z_eqi (y := nI ((7 * j) + 2)) (nI_add (7 * j) 2) ?_
    refine z_iald (q := 59) C 4 rfl (i := (7 * j) + 2) (by omega) (by decide) dX6_ofTwo_58 rfl ?_
    refine z_istore (q := 61) (lv' := [(9, .int ((M 3) ((7 * j) + 2))), (8, .int ((M 3) ((7 * j) + 1))), (7, .int ((M 3) (7 * j))), (6, .int ((M 3) ((7 * i) + 2))), (5, .int ((M 3) (7 * i))), (0, .ref hm), (1, .int (nI 2)), (2, .int (nI i)), (3, .int (nI j)), (4, .int rd)]) C dX6_ofTwo_59 rfl (by decide) rfl ?_
    refine z_iload_n (q := 62) C 6 rfl rfl dX6_ofTwo_61 rfl ?_
    refine z_tableIn (off := 46) (tgt := 108) C dX6_ofTwo_62 (by decide) (by decide) (by decide) (by decide) ?_
    refine z_iload (q := 110) C 1 rfl dX6_ofTwo_108 rfl ?_
    refine z_iload (q := 112) C 4 rfl dX6_ofTwo_110 rfl ?_
    refine z_icmp_ne (q := 115) (tgt := 278) C dX6_ofTwo_112 (by decide) rfl (fun c112 => ?_) (fun c112 => ?_)
    · skip
      refine z_vret C E (by omega) (by omega) dX6_ofTwo_278 ?_
      refine ⟨M 3, M 4, md, fu, ?_, rfl, rfl⟩
      rw [show twoL nl 2 (M 3 (7 * i)) (M 3 (7 * i + 2)) (M 3 (7 * j)) (M 3 (7 * j + 1)) (M 3 (7 * j + 2)) = _ from if_neg c112]
      exact hR
    · skip
      refine z_aload_n (q := 116) C 5 rfl rfl dX6_ofTwo_115 rfl ?_
      refine z_iload (q := 118) C 2 rfl dX6_ofTwo_116 rfl ?_
      refine z_iconst (q := 119) C k_iconst_0 dX6_ofTwo_118 rfl ?_
      refine z_iload (q := 121) C 3 rfl dX6_ofTwo_119 rfl ?_
      refine z_iconst (q := 122) C k_iconst_2 dX6_ofTwo_121 rfl ?_
      refine z_iload_n (q := 123) C 7 rfl rfl dX6_ofTwo_122 rfl ?_
      refine z_iload_n (q := 124) C 8 rfl rfl dX6_ofTwo_123 rfl ?_
      refine z_iload (q := 126) C 9 rfl dX6_ofTwo_124 rfl ?_
      refine z_callV (q := 129) (n := 7) (As := [.int ((M 3) (7 * j)), .int (nI 0), .int ((M 3) ((7 * i) + 2)), .int (nI 2), .int (nI i), .int (nI j), .int rd]) (rest := []) (wr := []) C (c_X6_makes X.l X.D X.2.1 hm e M cd mb ak cnt k nl n m md fu hnl S hR ((M 3) (7 * j)) (nI 0) ((M 3) ((7 * i) + 2)) (nI 2) (nI i) (nI j) rd u0 (tok_n 0 (by omega)) t2) gX6_ofTwo_X6_makes rfl rfl rfl (by decide +kernel) (by decide) ⟨by first | decide | omega, by first | decide | omega⟩ 0 6 rfl rfl [0, 1, 2, 3, 4, 5, 6] [] rfl rfl (by decide) (by decide) (by decide) rfl rfl (Nat.le_of_ble_eq_true rfl) dX6_ofTwo_126 rfl (fun v w1 hp => ?_)
      obtain ⟨f3, f4, md1, fu1, hR1, rfl, rfl⟩ := hp
      show zW X 10 [(hm, .inr (6, [.int cd, .int (zb mb), .int (zb ak), .int (nI cnt), .int (nI k), .ref (e 0), .int (nI nl), .ref (e 1), .int (nI n), .ref (e 2), .int (nI m), .int (nI md1), .ref (e 3), .ref (e 4), .int (zb fu1), .ref (e 5)])), (e 0, .inl (X.cI, 240, .inl (M 0))), (e 1, .inl (X.cI, 40, .inl (M 1))), (e 2, .inl (X.cI, 4200, .inl (M 2))), (e 3, .inl (X.cI, 4207, .inl f3)), (e 4, .inl (X.cI, 2048, .inl f4)), (e 5, .inl (X.cI, 600, .inl (M 5)))] _ _ 129 _ []
      refine z_goto (tgt := 278) C dX6_ofTwo_129 (by decide) ?_
      refine z_vret C E (by omega) (by omega) dX6_ofTwo_278 ?_
      refine ⟨f3, f4, md1, fu1, ?_, rfl, rfl⟩
      rw [show twoL nl 2 (M 3 (7 * i)) (M 3 (7 * i + 2)) (M 3 (7 * j)) (M 3 (7 * j + 1)) (M 3 (7 * j + 2)) = _ from if_pos c112]
      exact hR1
  · skip
    refine z_aload_n (q := 1) C 0 rfl rfl dX6_ofTwo_0 rfl ?_
    refine z_get (q := 4) (v := .ref (e 3)) C hiX6 0 12 rfl rfl (by decide) hf23 rfl dX6_ofTwo_1 rfl ?_
    refine z_bipush (q := 6) C k_bipush_7 dX6_ofTwo_4 rfl ?_
    refine z_iload_n (q := 7) C 2 rfl rfl dX6_ofTwo_6 rfl ?_
    refine z_imul (q := 8) C dX6_ofTwo_7 rfl ?_
    refine z_eqi (y := nI (7 * i)) (pk_mul 7 i) ?_
    refine z_iald (q := 9) C 4 rfl (i := 7 * i) (by omega) (by decide) dX6_ofTwo_8 rfl ?_
    refine z_istore (q := 11) (lv' := [(5, .int ((M 3) (7 * i))), (0, .ref hm), (1, .int (nI 3)), (2, .int (nI i)), (3, .int (nI j)), (4, .int rd)]) C dX6_ofTwo_9 rfl (by decide) rfl ?_
    refine z_aload_n (q := 12) C 1 rfl rfl dX6_ofTwo_11 rfl ?_
    refine z_get (q := 15) (v := .ref (e 3)) C hiX6 0 12 rfl rfl (by decide) hf23 rfl dX6_ofTwo_12 rfl ?_
    refine z_bipush (q := 17) C k_bipush_7 dX6_ofTwo_15 rfl ?_
    refine z_iload_n (q := 18) C 3 rfl rfl dX6_ofTwo_17 rfl ?_
    refine z_imul (q := 19) C dX6_ofTwo_18 rfl ?_
    refine z_eqi (y := nI (7 * i)) (pk_mul 7 i) ?_
    refine z_iconst (q := 20) C k_iconst_2 dX6_ofTwo_19 rfl ?_
    refine z_iadd (q := 21) C dX6_ofTwo_20 rfl ?_
    refine z_eqi (y := nI ((7 * i) + 2)) (nI_add (7 * i) 2) ?_
    refine z_iald (q := 22) C 4 rfl (i := (7 * i) + 2) (by omega) (by decide) dX6_ofTwo_21 rfl ?_
    refine z_istore (q := 24) (lv' := [(6, .int ((M 3) ((7 * i) + 2))), (5, .int ((M 3) (7 * i))), (0, .ref hm), (1, .int (nI 3)), (2, .int (nI i)), (3, .int (nI j)), (4, .int rd)]) C dX6_ofTwo_22 rfl (by decide) rfl ?_
    refine z_aload_n (q := 25) C 2 rfl rfl dX6_ofTwo_24 rfl ?_
    refine z_get (q := 28) (v := .ref (e 3)) C hiX6 0 12 rfl rfl (by decide) hf23 rfl dX6_ofTwo_25 rfl ?_
    refine z_bipush (q := 30) C k_bipush_7 dX6_ofTwo_28 rfl ?_
    refine z_iload_n (q := 31) C 5 rfl rfl dX6_ofTwo_30 rfl ?_
    refine z_imul (q := 32) C dX6_ofTwo_31 rfl ?_
    refine z_eqi (y := nI (7 * j)) (pk_mul 7 j) ?_
    refine z_iald (q := 33) C 4 rfl (i := 7 * j) (by omega) (by decide) dX6_ofTwo_32 rfl ?_
    refine z_istore (q := 35) (lv' := [(7, .int ((M 3) (7 * j))), (6, .int ((M 3) ((7 * i) + 2))), (5, .int ((M 3) (7 * i))), (0, .ref hm), (1, .int (nI 3)), (2, .int (nI i)), (3, .int (nI j)), (4, .int rd)]) C dX6_ofTwo_33 rfl (by decide) rfl ?_
    refine z_aload_n (q := 36) C 3 rfl rfl dX6_ofTwo_35 rfl ?_
    refine z_get (q := 39) (v := .ref (e 3)) C hiX6 0 12 rfl rfl (by decide) hf23 rfl dX6_ofTwo_36 rfl ?_
    refine z_bipush (q := 41) C k_bipush_7 dX6_ofTwo_39 rfl ?_
    refine z_iload_n (q := 42) C 6 rfl rfl dX6_ofTwo_41 rfl ?_
    refine z_imul (q := 43) C dX6_ofTwo_42 rfl ?_
    refine z_eqi (y := nI (7 * j)) (pk_mul 7 j) ?_
    refine z_iconst (q := 44) C k_iconst_1 dX6_ofTwo_43 rfl ?_
    refine z_iadd (q := 45) C dX6_ofTwo_44 rfl ?_
    refine z_eqi (y := nI ((7 * j) + 1)) (nI_add (7 * j) 1) ?_
    refine z_iald (q := 46) C 4 rfl (i := (7 * j) + 1) (by omega) (by decide) dX6_ofTwo_45 rfl ?_
    refine z_istore (q := 48) (lv' := [(8, .int ((M 3) ((7 * j) + 1))), (7, .int ((M 3) (7 * j))), (6, .int ((M 3) ((7 * i) + 2))), (5, .int ((M 3) (7 * i))), (0, .ref hm), (1, .int (nI 3)), (2, .int (nI i)), (3, .int (nI j)), (4, .int rd)]) C dX6_ofTwo_46 rfl (by decide) rfl ?_
    refine z_aload_n (q := 49) C 4 rfl rfl dX6_ofTwo_48 rfl ?_
    refine z_get (q := 52) (v := .ref (e 3)) C hiX6 0 12 rfl rfl (by decide) hf23 rfl dX6_ofTwo_49 rfl ?_
    refine z_bipush (q := 54) C k_bipush_7 dX6_ofTwo_52 rfl ?_
    refine z_iload_n (q := 55) C 7 rfl rfl dX6_ofTwo_54 rfl ?_
    refine z_imul (q := 56) C dX6_ofTwo_55 rfl ?_
    refine z_eqi (y := nI (7 * j)) (pk_mul 7 j) ?_
    refine z_iconst (q := 57) C k_iconst_2 dX6_ofTwo_56 rfl ?_
    refine z_iadd (q := 58) C dX6_ofTwo_57 rfl ?_
    refine z_eqi (y := nI ((7 * j) + 2)) (nI_add (7 * j) 2) ?_
    refine z_iald (q := 59) C 4 rfl (i := (7 * j) + 2) (by omega) (by decide) dX6_ofTwo_58 rfl ?_
    refine z_istore (q := 61) (lv' := [(9, .int ((M 3) ((7 * j) + 2))), (8, .int ((M 3) ((7 * j) + 1))), (7, .int ((M 3) (7 * j))), (6, .int ((M 3) ((7 * i) + 2))), (5, .int ((M 3) (7 * i))), (0, .ref hm), (1, .int (nI 3)), (2, .int (nI i)), (3, .int (nI j)), (4, .int rd)]) C dX6_ofTwo_59 rfl (by decide) rfl ?_
    refine z_iload_n (q := 62) C 6 rfl rfl dX6_ofTwo_61 rfl ?_
    refine z_tableIn (off := 70) (tgt := 132) C dX6_ofTwo_62 (by decide) (by decide) (by decide) (by decide) ?_
    refine z_iload (q := 134) C 1 rfl dX6_ofTwo_132 rfl ?_
    refine z_iload (q := 136) C 4 rfl dX6_ofTwo_134 rfl ?_
    refine z_icmp_ne (q := 139) (tgt := 278) C dX6_ofTwo_136 (by decide) rfl (fun c136 => ?_) (fun c136 => ?_)
    · skip
      refine z_vret C E (by omega) (by omega) dX6_ofTwo_278 ?_
      refine ⟨M 3, M 4, md, fu, ?_, rfl, rfl⟩
      rw [show twoL nl 3 (M 3 (7 * i)) (M 3 (7 * i + 2)) (M 3 (7 * j)) (M 3 (7 * j + 1)) (M 3 (7 * j + 2)) = _ from if_neg c136]
      exact hR
    · skip
      refine z_aload_n (q := 140) C 5 rfl rfl dX6_ofTwo_139 rfl ?_
      refine z_iload (q := 142) C 0 rfl dX6_ofTwo_140 rfl ?_
      refine z_iconst (q := 143) C k_iconst_0 dX6_ofTwo_142 rfl ?_
      refine z_iload (q := 145) C 3 rfl dX6_ofTwo_143 rfl ?_
      refine z_iconst (q := 146) C k_iconst_3 dX6_ofTwo_145 rfl ?_
      refine z_iload_n (q := 147) C 7 rfl rfl dX6_ofTwo_146 rfl ?_
      refine z_iload_n (q := 148) C 8 rfl rfl dX6_ofTwo_147 rfl ?_
      refine z_iload (q := 150) C 9 rfl dX6_ofTwo_148 rfl ?_
      refine z_callV (q := 153) (n := 7) (As := [.int ((M 3) ((7 * j) + 2)), .int (nI 0), .int ((M 3) ((7 * i) + 2)), .int (nI 3), .int (nI i), .int (nI j), .int rd]) (rest := []) (wr := []) C (c_X6_makes X.l X.D X.2.1 hm e M cd mb ak cnt k nl n m md fu hnl S hR ((M 3) ((7 * j) + 2)) (nI 0) ((M 3) ((7 * i) + 2)) (nI 3) (nI i) (nI j) rd u2 (tok_n 0 (by omega)) t2) gX6_ofTwo_X6_makes rfl rfl rfl (by decide +kernel) (by decide) ⟨by first | decide | omega, by first | decide | omega⟩ 0 6 rfl rfl [0, 1, 2, 3, 4, 5, 6] [] rfl rfl (by decide) (by decide) (by decide) rfl rfl (Nat.le_of_ble_eq_true rfl) dX6_ofTwo_150 rfl (fun v w1 hp => ?_)
      obtain ⟨f3, f4, md1, fu1, hR1, rfl, rfl⟩ := hp
      show zW X 10 [(hm, .inr (6, [.int cd, .int (zb mb), .int (zb ak), .int (nI cnt), .int (nI k), .ref (e 0), .int (nI nl), .ref (e 1), .int (nI n), .ref (e 2), .int (nI m), .int (nI md1), .ref (e 3), .ref (e 4), .int (zb fu1), .ref (e 5)])), (e 0, .inl (X.cI, 240, .inl (M 0))), (e 1, .inl (X.cI, 40, .inl (M 1))), (e 2, .inl (X.cI, 4200, .inl (M 2))), (e 3, .inl (X.cI, 4207, .inl f3)), (e 4, .inl (X.cI, 2048, .inl f4)), (e 5, .inl (X.cI, 600, .inl (M 5)))] _ _ 153 _ []
      refine z_goto (tgt := 278) C dX6_ofTwo_153 (by decide) ?_
      refine z_vret C E (by omega) (by omega) dX6_ofTwo_278 ?_
      refine ⟨f3, f4, md1, fu1, ?_, rfl, rfl⟩
      rw [show twoL nl 3 (M 3 (7 * i)) (M 3 (7 * i + 2)) (M 3 (7 * j)) (M 3 (7 * j + 1)) (M 3 (7 * j + 2)) = _ from if_pos c136]
      exact hR1
  · skip
    refine z_aload_n (q := 1) C 0 rfl rfl dX6_ofTwo_0 rfl ?_
    refine z_get (q := 4) (v := .ref (e 3)) C hiX6 0 12 rfl rfl (by decide) hf23 rfl dX6_ofTwo_1 rfl ?_
    refine z_bipush (q := 6) C k_bipush_7 dX6_ofTwo_4 rfl ?_
    refine z_iload_n (q := 7) C 2 rfl rfl dX6_ofTwo_6 rfl ?_
    refine z_imul (q := 8) C dX6_ofTwo_7 rfl ?_
    refine z_eqi (y := nI (7 * i)) (pk_mul 7 i) ?_
    refine z_iald (q := 9) C 4 rfl (i := 7 * i) (by omega) (by decide) dX6_ofTwo_8 rfl ?_
    refine z_istore (q := 11) (lv' := [(5, .int ((M 3) (7 * i))), (0, .ref hm), (1, .int (nI 5)), (2, .int (nI i)), (3, .int (nI j)), (4, .int rd)]) C dX6_ofTwo_9 rfl (by decide) rfl ?_
    refine z_aload_n (q := 12) C 1 rfl rfl dX6_ofTwo_11 rfl ?_
    refine z_get (q := 15) (v := .ref (e 3)) C hiX6 0 12 rfl rfl (by decide) hf23 rfl dX6_ofTwo_12 rfl ?_
    refine z_bipush (q := 17) C k_bipush_7 dX6_ofTwo_15 rfl ?_
    refine z_iload_n (q := 18) C 3 rfl rfl dX6_ofTwo_17 rfl ?_
    refine z_imul (q := 19) C dX6_ofTwo_18 rfl ?_
    refine z_eqi (y := nI (7 * i)) (pk_mul 7 i) ?_
    refine z_iconst (q := 20) C k_iconst_2 dX6_ofTwo_19 rfl ?_
    refine z_iadd (q := 21) C dX6_ofTwo_20 rfl ?_
    refine z_eqi (y := nI ((7 * i) + 2)) (nI_add (7 * i) 2) ?_
    refine z_iald (q := 22) C 4 rfl (i := (7 * i) + 2) (by omega) (by decide) dX6_ofTwo_21 rfl ?_
    refine z_istore (q := 24) (lv' := [(6, .int ((M 3) ((7 * i) + 2))), (5, .int ((M 3) (7 * i))), (0, .ref hm), (1, .int (nI 5)), (2, .int (nI i)), (3, .int (nI j)), (4, .int rd)]) C dX6_ofTwo_22 rfl (by decide) rfl ?_
    refine z_aload_n (q := 25) C 2 rfl rfl dX6_ofTwo_24 rfl ?_
    refine z_get (q := 28) (v := .ref (e 3)) C hiX6 0 12 rfl rfl (by decide) hf23 rfl dX6_ofTwo_25 rfl ?_
    refine z_bipush (q := 30) C k_bipush_7 dX6_ofTwo_28 rfl ?_
    refine z_iload_n (q := 31) C 5 rfl rfl dX6_ofTwo_30 rfl ?_
    refine z_imul (q := 32) C dX6_ofTwo_31 rfl ?_
    refine z_eqi (y := nI (7 * j)) (pk_mul 7 j) ?_
    refine z_iald (q := 33) C 4 rfl (i := 7 * j) (by omega) (by decide) dX6_ofTwo_32 rfl ?_
    refine z_istore (q := 35) (lv' := [(7, .int ((M 3) (7 * j))), (6, .int ((M 3) ((7 * i) + 2))), (5, .int ((M 3) (7 * i))), (0, .ref hm), (1, .int (nI 5)), (2, .int (nI i)), (3, .int (nI j)), (4, .int rd)]) C dX6_ofTwo_33 rfl (by decide) rfl ?_
    refine z_aload_n (q := 36) C 3 rfl rfl dX6_ofTwo_35 rfl ?_
    refine z_get (q := 39) (v := .ref (e 3)) C hiX6 0 12 rfl rfl (by decide) hf23 rfl dX6_ofTwo_36 rfl ?_
    refine z_bipush (q := 41) C k_bipush_7 dX6_ofTwo_39 rfl ?_
    refine z_iload_n (q := 42) C 6 rfl rfl dX6_ofTwo_41 rfl ?_
    refine z_imul (q := 43) C dX6_ofTwo_42 rfl ?_
    refine z_eqi (y := nI (7 * j)) (pk_mul 7 j) ?_
    refine z_iconst (q := 44) C k_iconst_1 dX6_ofTwo_43 rfl ?_
    refine z_iadd (q := 45) C dX6_ofTwo_44 rfl ?_
    refine z_eqi (y := nI ((7 * j) + 1)) (nI_add (7 * j) 1) ?_
    refine z_iald (q := 46) C 4 rfl (i := (7 * j) + 1) (by omega) (by decide) dX6_ofTwo_45 rfl ?_
    refine z_istore (q := 48) (lv' := [(8, .int ((M 3) ((7 * j) + 1))), (7, .int ((M 3) (7 * j))), (6, .int ((M 3) ((7 * i) + 2))), (5, .int ((M 3) (7 * i))), (0, .ref hm), (1, .int (nI 5)), (2, .int (nI i)), (3, .int (nI j)), (4, .int rd)]) C dX6_ofTwo_46 rfl (by decide) rfl ?_
    refine z_aload_n (q := 49) C 4 rfl rfl dX6_ofTwo_48 rfl ?_
    refine z_get (q := 52) (v := .ref (e 3)) C hiX6 0 12 rfl rfl (by decide) hf23 rfl dX6_ofTwo_49 rfl ?_
    refine z_bipush (q := 54) C k_bipush_7 dX6_ofTwo_52 rfl ?_
    refine z_iload_n (q := 55) C 7 rfl rfl dX6_ofTwo_54 rfl ?_
    refine z_imul (q := 56) C dX6_ofTwo_55 rfl ?_
    refine z_eqi (y := nI (7 * j)) (pk_mul 7 j) ?_
    refine z_iconst (q := 57) C k_iconst_2 dX6_ofTwo_56 rfl ?_
    refine z_iadd (q := 58) C dX6_ofTwo_57 rfl ?_
    refine z_eqi (y := nI ((7 * j) + 2)) (nI_add (7 * j) 2) ?_
    refine z_iald (q := 59) C 4 rfl (i := (7 * j) + 2) (by omega) (by decide) dX6_ofTwo_58 rfl ?_
    refine z_istore (q := 61) (lv' := [(9, .int ((M 3) ((7 * j) + 2))), (8, .int ((M 3) ((7 * j) + 1))), (7, .int ((M 3) (7 * j))), (6, .int ((M 3) ((7 * i) + 2))), (5, .int ((M 3) (7 * i))), (0, .ref hm), (1, .int (nI 5)), (2, .int (nI i)), (3, .int (nI j)), (4, .int rd)]) C dX6_ofTwo_59 rfl (by decide) rfl ?_
    refine z_iload_n (q := 62) C 6 rfl rfl dX6_ofTwo_61 rfl ?_
    refine z_tableIn (off := 94) (tgt := 156) C dX6_ofTwo_62 (by decide) (by decide) (by decide) (by decide) ?_
    refine z_iload (q := 158) C 2 rfl dX6_ofTwo_156 rfl ?_
    refine z_iload (q := 160) C 3 rfl dX6_ofTwo_158 rfl ?_
    refine z_icmp_ne (q := 163) (tgt := 278) C dX6_ofTwo_160 (by decide) rfl (fun c160 => ?_) (fun c160 => ?_)
    · skip
      refine z_vret C E (by omega) (by omega) dX6_ofTwo_278 ?_
      refine ⟨M 3, M 4, md, fu, ?_, rfl, rfl⟩
      rw [show twoL nl 5 (M 3 (7 * i)) (M 3 (7 * i + 2)) (M 3 (7 * j)) (M 3 (7 * j + 1)) (M 3 (7 * j + 2)) = _ from if_neg (fun z => c160 z.2)]
      exact hR
    · skip
      refine z_iload (q := 165) C 1 rfl dX6_ofTwo_163 rfl ?_
      refine z_iconst (q := 166) C k_iconst_5 dX6_ofTwo_165 rfl ?_
      refine z_icmp_ne (q := 169) (tgt := 278) C dX6_ofTwo_166 (by decide) rfl (fun c166 => ?_) (fun c166 => ?_)
      · skip
        refine z_vret C E (by omega) (by omega) dX6_ofTwo_278 ?_
        refine ⟨M 3, M 4, md, fu, ?_, rfl, rfl⟩
        rw [show twoL nl 5 (M 3 (7 * i)) (M 3 (7 * i + 2)) (M 3 (7 * j)) (M 3 (7 * j + 1)) (M 3 (7 * j + 2)) = _ from if_neg (fun z => c166 z.1)]
        exact hR
      · skip
        refine z_aload_n (q := 170) C 5 rfl rfl dX6_ofTwo_169 rfl ?_
        refine z_iload (q := 172) C 4 rfl dX6_ofTwo_170 rfl ?_
        refine z_iconst (q := 173) C k_iconst_5 dX6_ofTwo_172 rfl ?_
        refine z_iload (q := 175) C 0 rfl dX6_ofTwo_173 rfl ?_
        refine z_iconst (q := 176) C k_iconst_5 dX6_ofTwo_175 rfl ?_
        refine z_iload_n (q := 177) C 7 rfl rfl dX6_ofTwo_176 rfl ?_
        refine z_iload_n (q := 178) C 8 rfl rfl dX6_ofTwo_177 rfl ?_
        refine z_iload (q := 180) C 9 rfl dX6_ofTwo_178 rfl ?_
        refine z_callV (q := 183) (n := 7) (As := [.int ((M 3) (7 * i)), .int (nI 5), .int ((M 3) ((7 * j) + 2)), .int (nI 5), .int (nI i), .int (nI j), .int rd]) (rest := []) (wr := []) C (c_X6_makes X.l X.D X.2.1 hm e M cd mb ak cnt k nl n m md fu hnl S hR ((M 3) (7 * i)) (nI 5) ((M 3) ((7 * j) + 2)) (nI 5) (nI i) (nI j) rd t0 (tok_n 5 (by omega)) u2) gX6_ofTwo_X6_makes rfl rfl rfl (by decide +kernel) (by decide) ⟨by first | decide | omega, by first | decide | omega⟩ 0 6 rfl rfl [0, 1, 2, 3, 4, 5, 6] [] rfl rfl (by decide) (by decide) (by decide) rfl rfl (Nat.le_of_ble_eq_true rfl) dX6_ofTwo_180 rfl (fun v w1 hp => ?_)
        obtain ⟨f3, f4, md1, fu1, hR1, rfl, rfl⟩ := hp
        show zW X 10 [(hm, .inr (6, [.int cd, .int (zb mb), .int (zb ak), .int (nI cnt), .int (nI k), .ref (e 0), .int (nI nl), .ref (e 1), .int (nI n), .ref (e 2), .int (nI m), .int (nI md1), .ref (e 3), .ref (e 4), .int (zb fu1), .ref (e 5)])), (e 0, .inl (X.cI, 240, .inl (M 0))), (e 1, .inl (X.cI, 40, .inl (M 1))), (e 2, .inl (X.cI, 4200, .inl (M 2))), (e 3, .inl (X.cI, 4207, .inl f3)), (e 4, .inl (X.cI, 2048, .inl f4)), (e 5, .inl (X.cI, 600, .inl (M 5)))] _ _ 183 _ []
        refine z_goto (tgt := 278) C dX6_ofTwo_183 (by decide) ?_
        refine z_vret C E (by omega) (by omega) dX6_ofTwo_278 ?_
        refine ⟨f3, f4, md1, fu1, ?_, rfl, rfl⟩
        rw [show twoL nl 5 (M 3 (7 * i)) (M 3 (7 * i + 2)) (M 3 (7 * j)) (M 3 (7 * j + 1)) (M 3 (7 * j + 2)) = _ from if_pos ⟨c166, c160⟩]
        exact hR1
  · skip
    refine z_aload_n (q := 1) C 0 rfl rfl dX6_ofTwo_0 rfl ?_
    refine z_get (q := 4) (v := .ref (e 3)) C hiX6 0 12 rfl rfl (by decide) hf23 rfl dX6_ofTwo_1 rfl ?_
    refine z_bipush (q := 6) C k_bipush_7 dX6_ofTwo_4 rfl ?_
    refine z_iload_n (q := 7) C 2 rfl rfl dX6_ofTwo_6 rfl ?_
    refine z_imul (q := 8) C dX6_ofTwo_7 rfl ?_
    refine z_eqi (y := nI (7 * i)) (pk_mul 7 i) ?_
    refine z_iald (q := 9) C 4 rfl (i := 7 * i) (by omega) (by decide) dX6_ofTwo_8 rfl ?_
    refine z_istore (q := 11) (lv' := [(5, .int ((M 3) (7 * i))), (0, .ref hm), (1, .int (nI 7)), (2, .int (nI i)), (3, .int (nI j)), (4, .int rd)]) C dX6_ofTwo_9 rfl (by decide) rfl ?_
    refine z_aload_n (q := 12) C 1 rfl rfl dX6_ofTwo_11 rfl ?_
    refine z_get (q := 15) (v := .ref (e 3)) C hiX6 0 12 rfl rfl (by decide) hf23 rfl dX6_ofTwo_12 rfl ?_
    refine z_bipush (q := 17) C k_bipush_7 dX6_ofTwo_15 rfl ?_
    refine z_iload_n (q := 18) C 3 rfl rfl dX6_ofTwo_17 rfl ?_
    refine z_imul (q := 19) C dX6_ofTwo_18 rfl ?_
    refine z_eqi (y := nI (7 * i)) (pk_mul 7 i) ?_
    refine z_iconst (q := 20) C k_iconst_2 dX6_ofTwo_19 rfl ?_
    refine z_iadd (q := 21) C dX6_ofTwo_20 rfl ?_
    refine z_eqi (y := nI ((7 * i) + 2)) (nI_add (7 * i) 2) ?_
    refine z_iald (q := 22) C 4 rfl (i := (7 * i) + 2) (by omega) (by decide) dX6_ofTwo_21 rfl ?_
    refine z_istore (q := 24) (lv' := [(6, .int ((M 3) ((7 * i) + 2))), (5, .int ((M 3) (7 * i))), (0, .ref hm), (1, .int (nI 7)), (2, .int (nI i)), (3, .int (nI j)), (4, .int rd)]) C dX6_ofTwo_22 rfl (by decide) rfl ?_
    refine z_aload_n (q := 25) C 2 rfl rfl dX6_ofTwo_24 rfl ?_
    refine z_get (q := 28) (v := .ref (e 3)) C hiX6 0 12 rfl rfl (by decide) hf23 rfl dX6_ofTwo_25 rfl ?_
    refine z_bipush (q := 30) C k_bipush_7 dX6_ofTwo_28 rfl ?_
    refine z_iload_n (q := 31) C 5 rfl rfl dX6_ofTwo_30 rfl ?_
    refine z_imul (q := 32) C dX6_ofTwo_31 rfl ?_
    refine z_eqi (y := nI (7 * j)) (pk_mul 7 j) ?_
    refine z_iald (q := 33) C 4 rfl (i := 7 * j) (by omega) (by decide) dX6_ofTwo_32 rfl ?_
    refine z_istore (q := 35) (lv' := [(7, .int ((M 3) (7 * j))), (6, .int ((M 3) ((7 * i) + 2))), (5, .int ((M 3) (7 * i))), (0, .ref hm), (1, .int (nI 7)), (2, .int (nI i)), (3, .int (nI j)), (4, .int rd)]) C dX6_ofTwo_33 rfl (by decide) rfl ?_
    refine z_aload_n (q := 36) C 3 rfl rfl dX6_ofTwo_35 rfl ?_
    refine z_get (q := 39) (v := .ref (e 3)) C hiX6 0 12 rfl rfl (by decide) hf23 rfl dX6_ofTwo_36 rfl ?_
    refine z_bipush (q := 41) C k_bipush_7 dX6_ofTwo_39 rfl ?_
    refine z_iload_n (q := 42) C 6 rfl rfl dX6_ofTwo_41 rfl ?_
    refine z_imul (q := 43) C dX6_ofTwo_42 rfl ?_
    refine z_eqi (y := nI (7 * j)) (pk_mul 7 j) ?_
    refine z_iconst (q := 44) C k_iconst_1 dX6_ofTwo_43 rfl ?_
    refine z_iadd (q := 45) C dX6_ofTwo_44 rfl ?_
    refine z_eqi (y := nI ((7 * j) + 1)) (nI_add (7 * j) 1) ?_
    refine z_iald (q := 46) C 4 rfl (i := (7 * j) + 1) (by omega) (by decide) dX6_ofTwo_45 rfl ?_
    refine z_istore (q := 48) (lv' := [(8, .int ((M 3) ((7 * j) + 1))), (7, .int ((M 3) (7 * j))), (6, .int ((M 3) ((7 * i) + 2))), (5, .int ((M 3) (7 * i))), (0, .ref hm), (1, .int (nI 7)), (2, .int (nI i)), (3, .int (nI j)), (4, .int rd)]) C dX6_ofTwo_46 rfl (by decide) rfl ?_
    refine z_aload_n (q := 49) C 4 rfl rfl dX6_ofTwo_48 rfl ?_
    refine z_get (q := 52) (v := .ref (e 3)) C hiX6 0 12 rfl rfl (by decide) hf23 rfl dX6_ofTwo_49 rfl ?_
    refine z_bipush (q := 54) C k_bipush_7 dX6_ofTwo_52 rfl ?_
    refine z_iload_n (q := 55) C 7 rfl rfl dX6_ofTwo_54 rfl ?_
    refine z_imul (q := 56) C dX6_ofTwo_55 rfl ?_
    refine z_eqi (y := nI (7 * j)) (pk_mul 7 j) ?_
    refine z_iconst (q := 57) C k_iconst_2 dX6_ofTwo_56 rfl ?_
    refine z_iadd (q := 58) C dX6_ofTwo_57 rfl ?_
    refine z_eqi (y := nI ((7 * j) + 2)) (nI_add (7 * j) 2) ?_
    refine z_iald (q := 59) C 4 rfl (i := (7 * j) + 2) (by omega) (by decide) dX6_ofTwo_58 rfl ?_
    refine z_istore (q := 61) (lv' := [(9, .int ((M 3) ((7 * j) + 2))), (8, .int ((M 3) ((7 * j) + 1))), (7, .int ((M 3) (7 * j))), (6, .int ((M 3) ((7 * i) + 2))), (5, .int ((M 3) (7 * i))), (0, .ref hm), (1, .int (nI 7)), (2, .int (nI i)), (3, .int (nI j)), (4, .int rd)]) C dX6_ofTwo_59 rfl (by decide) rfl ?_
    refine z_iload_n (q := 62) C 6 rfl rfl dX6_ofTwo_61 rfl ?_
    refine z_tableIn (off := 124) (tgt := 186) C dX6_ofTwo_62 (by decide) (by decide) (by decide) (by decide) ?_
    refine z_iload (q := 188) C 1 rfl dX6_ofTwo_186 rfl ?_
    refine z_iload (q := 190) C 4 rfl dX6_ofTwo_188 rfl ?_
    refine z_icmp_ne (q := 193) (tgt := 278) C dX6_ofTwo_190 (by decide) rfl (fun c190 => ?_) (fun c190 => ?_)
    · skip
      refine z_vret C E (by omega) (by omega) dX6_ofTwo_278 ?_
      refine ⟨M 3, M 4, md, fu, ?_, rfl, rfl⟩
      rw [show twoL nl 7 (M 3 (7 * i)) (M 3 (7 * i + 2)) (M 3 (7 * j)) (M 3 (7 * j + 1)) (M 3 (7 * j + 2)) = _ from if_neg (fun z => c190 z.1)]
      exact hR
    · skip
      refine z_iload (q := 195) C 3 rfl dX6_ofTwo_193 rfl ?_
      refine z_sipush (q := 198) C k_sipush_300 dX6_ofTwo_195 rfl ?_
      refine z_icmp_ge_i (q := 201) (tgt := 278) C rfl ti_300 dX6_ofTwo_198 (by decide) rfl (fun c198 => ?_) (fun c198 => ?_)
      · skip
        refine z_vret C E (by omega) (by omega) dX6_ofTwo_278 ?_
        refine ⟨M 3, M 4, md, fu, ?_, rfl, rfl⟩
        rw [show twoL nl 7 (M 3 (7 * i)) (M 3 (7 * i + 2)) (M 3 (7 * j)) (M 3 (7 * j + 1)) (M 3 (7 * j + 2)) = _ from if_neg (fun z => absurd (decide_eq_true (show 300 ≤ (M 3 (7 * i + 2)).toInt ∧ (M 3 (7 * i + 2)).toInt < 300 + (nl : Int) from ⟨c198, (t2.lit hnl).1⟩)) (by rw [show decide _ = litB nl (M 3 (7 * i + 2)) from rfl, z.2]; decide))]
        exact hR
      · skip
        refine z_aload_n (q := 202) C 5 rfl rfl dX6_ofTwo_201 rfl ?_
        refine z_iload (q := 204) C 2 rfl dX6_ofTwo_202 rfl ?_
        refine z_iload (q := 206) C 3 rfl dX6_ofTwo_204 rfl ?_
        refine z_iload (q := 208) C 0 rfl dX6_ofTwo_206 rfl ?_
        refine z_bipush (q := 210) C k_bipush_7 dX6_ofTwo_208 rfl ?_
        refine z_iload_n (q := 211) C 7 rfl rfl dX6_ofTwo_210 rfl ?_
        refine z_iload_n (q := 212) C 8 rfl rfl dX6_ofTwo_211 rfl ?_
        refine z_iload (q := 214) C 9 rfl dX6_ofTwo_212 rfl ?_
        refine z_callV (q := 217) (n := 7) (As := [.int ((M 3) (7 * j)), .int ((M 3) ((7 * i) + 2)), .int ((M 3) ((7 * j) + 2)), .int (nI 7), .int (nI i), .int (nI j), .int rd]) (rest := []) (wr := []) C (c_X6_makes X.l X.D X.2.1 hm e M cd mb ak cnt k nl n m md fu hnl S hR ((M 3) (7 * j)) ((M 3) ((7 * i) + 2)) ((M 3) ((7 * j) + 2)) (nI 7) (nI i) (nI j) rd u0 t2 u2) gX6_ofTwo_X6_makes rfl rfl rfl (by decide +kernel) (by decide) ⟨by first | decide | omega, by first | decide | omega⟩ 0 6 rfl rfl [0, 1, 2, 3, 4, 5, 6] [] rfl rfl (by decide) (by decide) (by decide) rfl rfl (Nat.le_of_ble_eq_true rfl) dX6_ofTwo_214 rfl (fun v w1 hp => ?_)
        obtain ⟨f3, f4, md1, fu1, hR1, rfl, rfl⟩ := hp
        show zW X 10 [(hm, .inr (6, [.int cd, .int (zb mb), .int (zb ak), .int (nI cnt), .int (nI k), .ref (e 0), .int (nI nl), .ref (e 1), .int (nI n), .ref (e 2), .int (nI m), .int (nI md1), .ref (e 3), .ref (e 4), .int (zb fu1), .ref (e 5)])), (e 0, .inl (X.cI, 240, .inl (M 0))), (e 1, .inl (X.cI, 40, .inl (M 1))), (e 2, .inl (X.cI, 4200, .inl (M 2))), (e 3, .inl (X.cI, 4207, .inl f3)), (e 4, .inl (X.cI, 2048, .inl f4)), (e 5, .inl (X.cI, 600, .inl (M 5)))] _ _ 217 _ []
        refine z_goto (tgt := 278) C dX6_ofTwo_217 (by decide) ?_
        refine z_vret C E (by omega) (by omega) dX6_ofTwo_278 ?_
        refine ⟨f3, f4, md1, fu1, ?_, rfl, rfl⟩
        rw [show twoL nl 7 (M 3 (7 * i)) (M 3 (7 * i + 2)) (M 3 (7 * j)) (M 3 (7 * j + 1)) (M 3 (7 * j + 2)) = _ from if_pos ⟨c190, decide_eq_false (fun z => by omega)⟩]
        exact hR1
  · skip
    refine z_aload_n (q := 1) C 0 rfl rfl dX6_ofTwo_0 rfl ?_
    refine z_get (q := 4) (v := .ref (e 3)) C hiX6 0 12 rfl rfl (by decide) hf23 rfl dX6_ofTwo_1 rfl ?_
    refine z_bipush (q := 6) C k_bipush_7 dX6_ofTwo_4 rfl ?_
    refine z_iload_n (q := 7) C 2 rfl rfl dX6_ofTwo_6 rfl ?_
    refine z_imul (q := 8) C dX6_ofTwo_7 rfl ?_
    refine z_eqi (y := nI (7 * i)) (pk_mul 7 i) ?_
    refine z_iald (q := 9) C 4 rfl (i := 7 * i) (by omega) (by decide) dX6_ofTwo_8 rfl ?_
    refine z_istore (q := 11) (lv' := [(5, .int ((M 3) (7 * i))), (0, .ref hm), (1, .int (nI 9)), (2, .int (nI i)), (3, .int (nI j)), (4, .int rd)]) C dX6_ofTwo_9 rfl (by decide) rfl ?_
    refine z_aload_n (q := 12) C 1 rfl rfl dX6_ofTwo_11 rfl ?_
    refine z_get (q := 15) (v := .ref (e 3)) C hiX6 0 12 rfl rfl (by decide) hf23 rfl dX6_ofTwo_12 rfl ?_
    refine z_bipush (q := 17) C k_bipush_7 dX6_ofTwo_15 rfl ?_
    refine z_iload_n (q := 18) C 3 rfl rfl dX6_ofTwo_17 rfl ?_
    refine z_imul (q := 19) C dX6_ofTwo_18 rfl ?_
    refine z_eqi (y := nI (7 * i)) (pk_mul 7 i) ?_
    refine z_iconst (q := 20) C k_iconst_2 dX6_ofTwo_19 rfl ?_
    refine z_iadd (q := 21) C dX6_ofTwo_20 rfl ?_
    refine z_eqi (y := nI ((7 * i) + 2)) (nI_add (7 * i) 2) ?_
    refine z_iald (q := 22) C 4 rfl (i := (7 * i) + 2) (by omega) (by decide) dX6_ofTwo_21 rfl ?_
    refine z_istore (q := 24) (lv' := [(6, .int ((M 3) ((7 * i) + 2))), (5, .int ((M 3) (7 * i))), (0, .ref hm), (1, .int (nI 9)), (2, .int (nI i)), (3, .int (nI j)), (4, .int rd)]) C dX6_ofTwo_22 rfl (by decide) rfl ?_
    refine z_aload_n (q := 25) C 2 rfl rfl dX6_ofTwo_24 rfl ?_
    refine z_get (q := 28) (v := .ref (e 3)) C hiX6 0 12 rfl rfl (by decide) hf23 rfl dX6_ofTwo_25 rfl ?_
    refine z_bipush (q := 30) C k_bipush_7 dX6_ofTwo_28 rfl ?_
    refine z_iload_n (q := 31) C 5 rfl rfl dX6_ofTwo_30 rfl ?_
    refine z_imul (q := 32) C dX6_ofTwo_31 rfl ?_
    refine z_eqi (y := nI (7 * j)) (pk_mul 7 j) ?_
    refine z_iald (q := 33) C 4 rfl (i := 7 * j) (by omega) (by decide) dX6_ofTwo_32 rfl ?_
    refine z_istore (q := 35) (lv' := [(7, .int ((M 3) (7 * j))), (6, .int ((M 3) ((7 * i) + 2))), (5, .int ((M 3) (7 * i))), (0, .ref hm), (1, .int (nI 9)), (2, .int (nI i)), (3, .int (nI j)), (4, .int rd)]) C dX6_ofTwo_33 rfl (by decide) rfl ?_
    refine z_aload_n (q := 36) C 3 rfl rfl dX6_ofTwo_35 rfl ?_
    refine z_get (q := 39) (v := .ref (e 3)) C hiX6 0 12 rfl rfl (by decide) hf23 rfl dX6_ofTwo_36 rfl ?_
    refine z_bipush (q := 41) C k_bipush_7 dX6_ofTwo_39 rfl ?_
    refine z_iload_n (q := 42) C 6 rfl rfl dX6_ofTwo_41 rfl ?_
    refine z_imul (q := 43) C dX6_ofTwo_42 rfl ?_
    refine z_eqi (y := nI (7 * j)) (pk_mul 7 j) ?_
    refine z_iconst (q := 44) C k_iconst_1 dX6_ofTwo_43 rfl ?_
    refine z_iadd (q := 45) C dX6_ofTwo_44 rfl ?_
    refine z_eqi (y := nI ((7 * j) + 1)) (nI_add (7 * j) 1) ?_
    refine z_iald (q := 46) C 4 rfl (i := (7 * j) + 1) (by omega) (by decide) dX6_ofTwo_45 rfl ?_
    refine z_istore (q := 48) (lv' := [(8, .int ((M 3) ((7 * j) + 1))), (7, .int ((M 3) (7 * j))), (6, .int ((M 3) ((7 * i) + 2))), (5, .int ((M 3) (7 * i))), (0, .ref hm), (1, .int (nI 9)), (2, .int (nI i)), (3, .int (nI j)), (4, .int rd)]) C dX6_ofTwo_46 rfl (by decide) rfl ?_
    refine z_aload_n (q := 49) C 4 rfl rfl dX6_ofTwo_48 rfl ?_
    refine z_get (q := 52) (v := .ref (e 3)) C hiX6 0 12 rfl rfl (by decide) hf23 rfl dX6_ofTwo_49 rfl ?_
    refine z_bipush (q := 54) C k_bipush_7 dX6_ofTwo_52 rfl ?_
    refine z_iload_n (q := 55) C 7 rfl rfl dX6_ofTwo_54 rfl ?_
    refine z_imul (q := 56) C dX6_ofTwo_55 rfl ?_
    refine z_eqi (y := nI (7 * j)) (pk_mul 7 j) ?_
    refine z_iconst (q := 57) C k_iconst_2 dX6_ofTwo_56 rfl ?_
    refine z_iadd (q := 58) C dX6_ofTwo_57 rfl ?_
    refine z_eqi (y := nI ((7 * j) + 2)) (nI_add (7 * j) 2) ?_
    refine z_iald (q := 59) C 4 rfl (i := (7 * j) + 2) (by omega) (by decide) dX6_ofTwo_58 rfl ?_
    refine z_istore (q := 61) (lv' := [(9, .int ((M 3) ((7 * j) + 2))), (8, .int ((M 3) ((7 * j) + 1))), (7, .int ((M 3) (7 * j))), (6, .int ((M 3) ((7 * i) + 2))), (5, .int ((M 3) (7 * i))), (0, .ref hm), (1, .int (nI 9)), (2, .int (nI i)), (3, .int (nI j)), (4, .int rd)]) C dX6_ofTwo_59 rfl (by decide) rfl ?_
    refine z_iload_n (q := 62) C 6 rfl rfl dX6_ofTwo_61 rfl ?_
    refine z_tableIn (off := 158) (tgt := 220) C dX6_ofTwo_62 (by decide) (by decide) (by decide) (by decide) ?_
    refine z_iload (q := 222) C 1 rfl dX6_ofTwo_220 rfl ?_
    refine z_if_ne_z (q := 225) (tgt := 278) C dX6_ofTwo_222 (by decide) rfl (fun c222 => ?_) (fun c222 => ?_)
    · skip
      refine z_vret C E (by omega) (by omega) dX6_ofTwo_278 ?_
      refine ⟨M 3, M 4, md, fu, ?_, rfl, rfl⟩
      rw [show twoL nl 9 (M 3 (7 * i)) (M 3 (7 * i + 2)) (M 3 (7 * j)) (M 3 (7 * j + 1)) (M 3 (7 * j + 2)) = _ from if_neg (fun z => c222 z.1)]
      exact hR
    · skip
      refine z_iload (q := 227) C 0 rfl dX6_ofTwo_225 rfl ?_
      refine z_iload (q := 229) C 4 rfl dX6_ofTwo_227 rfl ?_
      refine z_icmp_ne (q := 232) (tgt := 278) C dX6_ofTwo_229 (by decide) rfl (fun c229 => ?_) (fun c229 => ?_)
      · skip
        refine z_vret C E (by omega) (by omega) dX6_ofTwo_278 ?_
        refine ⟨M 3, M 4, md, fu, ?_, rfl, rfl⟩
        rw [show twoL nl 9 (M 3 (7 * i)) (M 3 (7 * i + 2)) (M 3 (7 * j)) (M 3 (7 * j + 1)) (M 3 (7 * j + 2)) = _ from if_neg (fun z => c229 z.2)]
        exact hR
      · skip
        refine z_aload_n (q := 233) C 5 rfl rfl dX6_ofTwo_232 rfl ?_
        refine z_iload (q := 235) C 2 rfl dX6_ofTwo_233 rfl ?_
        refine z_iconst (q := 236) C k_iconst_0 dX6_ofTwo_235 rfl ?_
        refine z_iload (q := 238) C 3 rfl dX6_ofTwo_236 rfl ?_
        refine z_bipush (q := 240) C k_bipush_9 dX6_ofTwo_238 rfl ?_
        refine z_iload_n (q := 241) C 7 rfl rfl dX6_ofTwo_240 rfl ?_
        refine z_iload_n (q := 242) C 8 rfl rfl dX6_ofTwo_241 rfl ?_
        refine z_iload (q := 244) C 9 rfl dX6_ofTwo_242 rfl ?_
        refine z_callV (q := 247) (n := 7) (As := [.int ((M 3) (7 * j)), .int (nI 0), .int ((M 3) ((7 * i) + 2)), .int (nI 9), .int (nI i), .int (nI j), .int rd]) (rest := []) (wr := []) C (c_X6_makes X.l X.D X.2.1 hm e M cd mb ak cnt k nl n m md fu hnl S hR ((M 3) (7 * j)) (nI 0) ((M 3) ((7 * i) + 2)) (nI 9) (nI i) (nI j) rd u0 (tok_n 0 (by omega)) t2) gX6_ofTwo_X6_makes rfl rfl rfl (by decide +kernel) (by decide) ⟨by first | decide | omega, by first | decide | omega⟩ 0 6 rfl rfl [0, 1, 2, 3, 4, 5, 6] [] rfl rfl (by decide) (by decide) (by decide) rfl rfl (Nat.le_of_ble_eq_true rfl) dX6_ofTwo_244 rfl (fun v w1 hp => ?_)
        obtain ⟨f3, f4, md1, fu1, hR1, rfl, rfl⟩ := hp
        show zW X 10 [(hm, .inr (6, [.int cd, .int (zb mb), .int (zb ak), .int (nI cnt), .int (nI k), .ref (e 0), .int (nI nl), .ref (e 1), .int (nI n), .ref (e 2), .int (nI m), .int (nI md1), .ref (e 3), .ref (e 4), .int (zb fu1), .ref (e 5)])), (e 0, .inl (X.cI, 240, .inl (M 0))), (e 1, .inl (X.cI, 40, .inl (M 1))), (e 2, .inl (X.cI, 4200, .inl (M 2))), (e 3, .inl (X.cI, 4207, .inl f3)), (e 4, .inl (X.cI, 2048, .inl f4)), (e 5, .inl (X.cI, 600, .inl (M 5)))] _ _ 247 _ []
        refine z_goto (tgt := 278) C dX6_ofTwo_247 (by decide) ?_
        refine z_vret C E (by omega) (by omega) dX6_ofTwo_278 ?_
        refine ⟨f3, f4, md1, fu1, ?_, rfl, rfl⟩
        rw [show twoL nl 9 (M 3 (7 * i)) (M 3 (7 * i + 2)) (M 3 (7 * j)) (M 3 (7 * j + 1)) (M 3 (7 * j + 2)) = _ from if_pos ⟨c222, c229⟩]
        exact hR1
  · skip
    refine z_aload_n (q := 1) C 0 rfl rfl dX6_ofTwo_0 rfl ?_
    refine z_get (q := 4) (v := .ref (e 3)) C hiX6 0 12 rfl rfl (by decide) hf23 rfl dX6_ofTwo_1 rfl ?_
    refine z_bipush (q := 6) C k_bipush_7 dX6_ofTwo_4 rfl ?_
    refine z_iload_n (q := 7) C 2 rfl rfl dX6_ofTwo_6 rfl ?_
    refine z_imul (q := 8) C dX6_ofTwo_7 rfl ?_
    refine z_eqi (y := nI (7 * i)) (pk_mul 7 i) ?_
    refine z_iald (q := 9) C 4 rfl (i := 7 * i) (by omega) (by decide) dX6_ofTwo_8 rfl ?_
    refine z_istore (q := 11) (lv' := [(5, .int ((M 3) (7 * i))), (0, .ref hm), (1, .int (nI 11)), (2, .int (nI i)), (3, .int (nI j)), (4, .int rd)]) C dX6_ofTwo_9 rfl (by decide) rfl ?_
    refine z_aload_n (q := 12) C 1 rfl rfl dX6_ofTwo_11 rfl ?_
    refine z_get (q := 15) (v := .ref (e 3)) C hiX6 0 12 rfl rfl (by decide) hf23 rfl dX6_ofTwo_12 rfl ?_
    refine z_bipush (q := 17) C k_bipush_7 dX6_ofTwo_15 rfl ?_
    refine z_iload_n (q := 18) C 3 rfl rfl dX6_ofTwo_17 rfl ?_
    refine z_imul (q := 19) C dX6_ofTwo_18 rfl ?_
    refine z_eqi (y := nI (7 * i)) (pk_mul 7 i) ?_
    refine z_iconst (q := 20) C k_iconst_2 dX6_ofTwo_19 rfl ?_
    refine z_iadd (q := 21) C dX6_ofTwo_20 rfl ?_
    refine z_eqi (y := nI ((7 * i) + 2)) (nI_add (7 * i) 2) ?_
    refine z_iald (q := 22) C 4 rfl (i := (7 * i) + 2) (by omega) (by decide) dX6_ofTwo_21 rfl ?_
    refine z_istore (q := 24) (lv' := [(6, .int ((M 3) ((7 * i) + 2))), (5, .int ((M 3) (7 * i))), (0, .ref hm), (1, .int (nI 11)), (2, .int (nI i)), (3, .int (nI j)), (4, .int rd)]) C dX6_ofTwo_22 rfl (by decide) rfl ?_
    refine z_aload_n (q := 25) C 2 rfl rfl dX6_ofTwo_24 rfl ?_
    refine z_get (q := 28) (v := .ref (e 3)) C hiX6 0 12 rfl rfl (by decide) hf23 rfl dX6_ofTwo_25 rfl ?_
    refine z_bipush (q := 30) C k_bipush_7 dX6_ofTwo_28 rfl ?_
    refine z_iload_n (q := 31) C 5 rfl rfl dX6_ofTwo_30 rfl ?_
    refine z_imul (q := 32) C dX6_ofTwo_31 rfl ?_
    refine z_eqi (y := nI (7 * j)) (pk_mul 7 j) ?_
    refine z_iald (q := 33) C 4 rfl (i := 7 * j) (by omega) (by decide) dX6_ofTwo_32 rfl ?_
    refine z_istore (q := 35) (lv' := [(7, .int ((M 3) (7 * j))), (6, .int ((M 3) ((7 * i) + 2))), (5, .int ((M 3) (7 * i))), (0, .ref hm), (1, .int (nI 11)), (2, .int (nI i)), (3, .int (nI j)), (4, .int rd)]) C dX6_ofTwo_33 rfl (by decide) rfl ?_
    refine z_aload_n (q := 36) C 3 rfl rfl dX6_ofTwo_35 rfl ?_
    refine z_get (q := 39) (v := .ref (e 3)) C hiX6 0 12 rfl rfl (by decide) hf23 rfl dX6_ofTwo_36 rfl ?_
    refine z_bipush (q := 41) C k_bipush_7 dX6_ofTwo_39 rfl ?_
    refine z_iload_n (q := 42) C 6 rfl rfl dX6_ofTwo_41 rfl ?_
    refine z_imul (q := 43) C dX6_ofTwo_42 rfl ?_
    refine z_eqi (y := nI (7 * j)) (pk_mul 7 j) ?_
    refine z_iconst (q := 44) C k_iconst_1 dX6_ofTwo_43 rfl ?_
    refine z_iadd (q := 45) C dX6_ofTwo_44 rfl ?_
    refine z_eqi (y := nI ((7 * j) + 1)) (nI_add (7 * j) 1) ?_
    refine z_iald (q := 46) C 4 rfl (i := (7 * j) + 1) (by omega) (by decide) dX6_ofTwo_45 rfl ?_
    refine z_istore (q := 48) (lv' := [(8, .int ((M 3) ((7 * j) + 1))), (7, .int ((M 3) (7 * j))), (6, .int ((M 3) ((7 * i) + 2))), (5, .int ((M 3) (7 * i))), (0, .ref hm), (1, .int (nI 11)), (2, .int (nI i)), (3, .int (nI j)), (4, .int rd)]) C dX6_ofTwo_46 rfl (by decide) rfl ?_
    refine z_aload_n (q := 49) C 4 rfl rfl dX6_ofTwo_48 rfl ?_
    refine z_get (q := 52) (v := .ref (e 3)) C hiX6 0 12 rfl rfl (by decide) hf23 rfl dX6_ofTwo_49 rfl ?_
    refine z_bipush (q := 54) C k_bipush_7 dX6_ofTwo_52 rfl ?_
    refine z_iload_n (q := 55) C 7 rfl rfl dX6_ofTwo_54 rfl ?_
    refine z_imul (q := 56) C dX6_ofTwo_55 rfl ?_
    refine z_eqi (y := nI (7 * j)) (pk_mul 7 j) ?_
    refine z_iconst (q := 57) C k_iconst_2 dX6_ofTwo_56 rfl ?_
    refine z_iadd (q := 58) C dX6_ofTwo_57 rfl ?_
    refine z_eqi (y := nI ((7 * j) + 2)) (nI_add (7 * j) 2) ?_
    refine z_iald (q := 59) C 4 rfl (i := (7 * j) + 2) (by omega) (by decide) dX6_ofTwo_58 rfl ?_
    refine z_istore (q := 61) (lv' := [(9, .int ((M 3) ((7 * j) + 2))), (8, .int ((M 3) ((7 * j) + 1))), (7, .int ((M 3) (7 * j))), (6, .int ((M 3) ((7 * i) + 2))), (5, .int ((M 3) (7 * i))), (0, .ref hm), (1, .int (nI 11)), (2, .int (nI i)), (3, .int (nI j)), (4, .int rd)]) C dX6_ofTwo_59 rfl (by decide) rfl ?_
    refine z_iload_n (q := 62) C 6 rfl rfl dX6_ofTwo_61 rfl ?_
    refine z_tableOut (tgt := 250) C dX6_ofTwo_62 (by decide) (by decide) ?_
    refine z_iload (q := 252) C 2 rfl dX6_ofTwo_250 rfl ?_
    refine z_iload (q := 254) C 3 rfl dX6_ofTwo_252 rfl ?_
    refine z_icmp_ne (q := 257) (tgt := 278) C dX6_ofTwo_254 (by decide) rfl (fun c254 => ?_) (fun c254 => ?_)
    · skip
      refine z_vret C E (by omega) (by omega) dX6_ofTwo_278 ?_
      refine ⟨M 3, M 4, md, fu, ?_, rfl, rfl⟩
      rw [show twoL nl 11 (M 3 (7 * i)) (M 3 (7 * i + 2)) (M 3 (7 * j)) (M 3 (7 * j + 1)) (M 3 (7 * j + 2)) = _ from if_neg (fun z => c254 z.2)]
      exact hR
    · skip
      refine z_iload (q := 259) C 1 rfl dX6_ofTwo_257 rfl ?_
      refine z_iconst (q := 260) C k_iconst_4 dX6_ofTwo_259 rfl ?_
      refine z_icmp_ne (q := 263) (tgt := 278) C dX6_ofTwo_260 (by decide) rfl (fun c260 => ?_) (fun c260 => ?_)
      · skip
        refine z_vret C E (by omega) (by omega) dX6_ofTwo_278 ?_
        refine ⟨M 3, M 4, md, fu, ?_, rfl, rfl⟩
        rw [show twoL nl 11 (M 3 (7 * i)) (M 3 (7 * i + 2)) (M 3 (7 * j)) (M 3 (7 * j + 1)) (M 3 (7 * j + 2)) = _ from if_neg (fun z => c260 z.1)]
        exact hR
      · skip
        refine z_aload_n (q := 264) C 5 rfl rfl dX6_ofTwo_263 rfl ?_
        refine z_iload (q := 266) C 4 rfl dX6_ofTwo_264 rfl ?_
        refine z_iconst (q := 267) C k_iconst_4 dX6_ofTwo_266 rfl ?_
        refine z_iload (q := 269) C 0 rfl dX6_ofTwo_267 rfl ?_
        refine z_bipush (q := 271) C k_bipush_11 dX6_ofTwo_269 rfl ?_
        refine z_iload_n (q := 272) C 7 rfl rfl dX6_ofTwo_271 rfl ?_
        refine z_iload_n (q := 273) C 8 rfl rfl dX6_ofTwo_272 rfl ?_
        refine z_iload (q := 275) C 9 rfl dX6_ofTwo_273 rfl ?_
        refine z_callV (q := 278) (n := 7) (As := [.int ((M 3) (7 * i)), .int (nI 4), .int ((M 3) ((7 * j) + 2)), .int (nI 11), .int (nI i), .int (nI j), .int rd]) (rest := []) (wr := []) C (c_X6_makes X.l X.D X.2.1 hm e M cd mb ak cnt k nl n m md fu hnl S hR ((M 3) (7 * i)) (nI 4) ((M 3) ((7 * j) + 2)) (nI 11) (nI i) (nI j) rd t0 (tok_n 4 (by omega)) u2) gX6_ofTwo_X6_makes rfl rfl rfl (by decide +kernel) (by decide) ⟨by first | decide | omega, by first | decide | omega⟩ 0 6 rfl rfl [0, 1, 2, 3, 4, 5, 6] [] rfl rfl (by decide) (by decide) (by decide) rfl rfl (Nat.le_of_ble_eq_true rfl) dX6_ofTwo_275 rfl (fun v w1 hp => ?_)
        obtain ⟨f3, f4, md1, fu1, hR1, rfl, rfl⟩ := hp
        show zW X 10 [(hm, .inr (6, [.int cd, .int (zb mb), .int (zb ak), .int (nI cnt), .int (nI k), .ref (e 0), .int (nI nl), .ref (e 1), .int (nI n), .ref (e 2), .int (nI m), .int (nI md1), .ref (e 3), .ref (e 4), .int (zb fu1), .ref (e 5)])), (e 0, .inl (X.cI, 240, .inl (M 0))), (e 1, .inl (X.cI, 40, .inl (M 1))), (e 2, .inl (X.cI, 4200, .inl (M 2))), (e 3, .inl (X.cI, 4207, .inl f3)), (e 4, .inl (X.cI, 2048, .inl f4)), (e 5, .inl (X.cI, 600, .inl (M 5)))] _ _ 278 _ []
        refine z_vret C E (by omega) (by omega) dX6_ofTwo_278 ?_
        refine ⟨f3, f4, md1, fu1, ?_, rfl, rfl⟩
        rw [show twoL nl 11 (M 3 (7 * i)) (M 3 (7 * i + 2)) (M 3 (7 * j)) (M 3 (7 * j + 1)) (M 3 (7 * j + 2)) = _ from if_pos ⟨c260, c254⟩]
        exact hR1
