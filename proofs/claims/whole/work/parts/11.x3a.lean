/-! Rows: the table of slots -/
def hsh (s p o : Int32) : Nat := (((s * nI 613 + p) * nI 601 + o) * (-1640531527 : Int32)).toBitVec.toNat / 2 ^ 22
theorem hsh_lt (s p o : Int32) : hsh s p o < 1024 := by
  unfold hsh
  have := (((s * nI 613 + p) * nI 601 + o) * (-1640531527 : Int32)).toBitVec.isLt
  omega
theorem nI_bv {x : Int32} {n : Nat} (h : x.toBitVec.toNat = n) : x = nI n := by
  have hn : n < 2 ^ 32 := by rw [← h]; exact x.toBitVec.isLt
  have h2 : (nI n).toBitVec.toNat = n := pk_tn hn
  exact Int32.toBitVec_inj.mp (BitVec.eq_of_toNat_eq (by rw [h, h2]))
theorem hsh_eq (s p o : Int32) : ((((s * nI 613 + p) * nI 601 + o) * (-1640531527 : Int32)).toUInt32 >>> ((nI 22).toUInt32 &&& Int32.toUInt32 31)).toInt32 = nI (hsh s p o) :=
  nI_bv (pk_ushr _ _ 22 (by decide))
theorem and1023 (h d : Nat) : nI ((h + d) % 1024 + 1) &&& nI 1023 = nI ((h + (d + 1)) % 1024) := by
  rw [pk_andN (k := 10) (by omega) (by decide)]
  congr 1
  omega
theorem nI_nm1 {j : Nat} (h : j < 2 ^ 31) : ¬ nI j = (-1) := fun e => by
  have := congrArg Int32.toInt e
  rw [nI_toInt h] at this
  have h2 : ((-1) : Int32).toInt = -1 := by decide
  omega
/-- the d-th slot that is looked at holds another fact's row; ends the search -/
def slotGo (F : Nat → Nat → Int32) (s p o : Int32) (d : Nat) : Prop := ∃ j, j < 600 ∧ F 7 ((hsh s p o + d) % 1024) = nI j ∧ ¬ (F 0 j = s ∧ F 1 j = p ∧ F 2 j = o)
def slotEnd (F : Nat → Nat → Int32) (s p o : Int32) (d : Nat) : Prop := F 7 ((hsh s p o + d) % 1024) = (-1) ∨ ∃ j, j < 600 ∧ F 7 ((hsh s p o + d) % 1024) = nI j ∧ F 0 j = s ∧ F 1 j = p ∧ F 2 j = o

set_option maxHeartbeats 4000000 in
set_option maxRecDepth 100000 in
theorem l_X3_slotOf {X : zX} (h : Nat) (a : Nat → Nat) (F : Nat → Nat → Int32) (n : Nat) (ov am : Int32) (s p o : Int32) (hT : ∀ k, k < 1024 → F 7 k = (-1) ∨ ∃ j, j < 600 ∧ F 7 k = nI j) (hFr : ∃ d, d < 1024 ∧ F 7 ((hsh s p o + d) % 1024) = (-1)) (C : zC X cX3_slotOf 7 RX3 wsX3_slotOf ({ frames := 0, cells := 0, slots := 0, locals := 0 } : Room)) (E : zE X (some .int) 0 0 (fun v w1 => ∃ d, d < 1024 ∧ (∀ e, e < d → slotGo F s p o e) ∧ slotEnd F s p o d ∧ v = some (.int (nI ((hsh s p o + d) % 1024))) ∧ w1 = [(h, .inr (3, [.ref (a 0), .ref (a 1), .ref (a 2), .ref (a 3), .ref (a 4), .ref (a 5), .ref (a 6), .ref (a 7), .ref (a 8), .int (nI n), .int ov, .int am])), (a 0, .inl (X.cI, 600, .inl (F 0))), (a 1, .inl (X.cI, 600, .inl (F 1))), (a 2, .inl (X.cI, 600, .inl (F 2))), (a 3, .inl (X.cI, 600, .inl (F 3))), (a 4, .inl (X.cI, 600, .inl (F 4))), (a 5, .inl (X.cI, 600, .inl (F 5))), (a 6, .inl (X.cI, 600, .inl (F 6))), (a 7, .inl (X.cI, 1024, .inl (F 7))), (a 8, .inl (X.cZ, 600, .inl (F 8)))])) : ∀ (k : Nat) (d : Nat), d ≤ 1024 → 1024 < d + k → (∀ e, e < d → slotGo F s p o e) → zW X 7 [(h, .inr (3, [.ref (a 0), .ref (a 1), .ref (a 2), .ref (a 3), .ref (a 4), .ref (a 5), .ref (a 6), .ref (a 7), .ref (a 8), .int (nI n), .int ov, .int am])), (a 0, .inl (X.cI, 600, .inl (F 0))), (a 1, .inl (X.cI, 600, .inl (F 1))), (a 2, .inl (X.cI, 600, .inl (F 2))), (a 3, .inl (X.cI, 600, .inl (F 3))), (a 4, .inl (X.cI, 600, .inl (F 4))), (a 5, .inl (X.cI, 600, .inl (F 5))), (a 6, .inl (X.cI, 600, .inl (F 6))), (a 7, .inl (X.cI, 1024, .inl (F 7))), (a 8, .inl (X.cZ, 600, .inl (F 8)))] 0 0 24 [(0, .ref h), (1, .int s), (2, .int p), (3, .int o), (4, .int (nI ((hsh s p o + d) % 1024))), (5, .int (nI d))] [] := by
  have hiX3 : ∀ w ∈ u_ws RX3 TX3 12, w ∈ wsX3_slotOf := by decide +kernel
  have hf9 : Cond.fieldLink RX3 9 "RdfsRules$Rows" "subjects" "[I" ∈ wsX3_slotOf := by decide +kernel
  have hf15 : Cond.fieldLink RX3 15 "RdfsRules$Rows" "properties" "[I" ∈ wsX3_slotOf := by decide +kernel
  have hf18 : Cond.fieldLink RX3 18 "RdfsRules$Rows" "objects" "[I" ∈ wsX3_slotOf := by decide +kernel
  have hf33 : Cond.fieldLink RX3 33 "RdfsRules$Rows" "rowAtSlot" "[I" ∈ wsX3_slotOf := by decide +kernel
  intro k
  induction k with
  | zero =>
    intro d hd hk hgo
    exfalso
    omega
  | succ k ih =>
    intro d hd hk hgo
    refine z_iload (q := 26) C 5 rfl dX3_slotOf_24 rfl ?_
    refine z_sipush (q := 29) C k_sipush_1024 dX3_slotOf_26 rfl ?_
    refine z_icmp_ge_n (q := 32) (tgt := 99) C (by omega) (by omega) dX3_slotOf_29 (by decide) rfl (fun c29 => ?_) (fun c29 => ?_)
    · skip
      obtain ⟨d0, hd1, hd2⟩ := hFr
      obtain ⟨j, hj, ej, -⟩ := hgo d0 (by omega)
      exact absurd (ej.symm.trans hd2) (nI_nm1 (by omega))
    · skip
      refine z_aload_n (q := 33) C 0 rfl rfl dX3_slotOf_32 rfl ?_
      refine z_get (q := 36) (v := .ref (a 7)) C hiX3 0 7 rfl rfl (by decide) hf33 rfl dX3_slotOf_33 rfl ?_
      refine z_iload (q := 38) C 4 rfl dX3_slotOf_36 rfl ?_
      refine z_iald (q := 39) C 8 rfl (i := (hsh s p o + d) % 1024) (by omega) (by decide) dX3_slotOf_38 rfl ?_
      refine z_istore (q := 41) (lv' := [(6, .int ((F 7) ((hsh s p o + d) % 1024))), (0, .ref h), (1, .int s), (2, .int p), (3, .int o), (4, .int (nI ((hsh s p o + d) % 1024))), (5, .int (nI d))]) C dX3_slotOf_39 rfl (by decide) rfl ?_
      refine z_iload (q := 43) C 0 rfl dX3_slotOf_41 rfl ?_
      refine z_iconst (q := 44) C k_iconst_m1 dX3_slotOf_43 rfl ?_
      refine z_icmp_eq (q := 47) (tgt := 80) C dX3_slotOf_44 (by decide) rfl (fun c44 => ?_) (fun c44 => ?_)
      · skip
        refine z_iload (q := 82) C 5 rfl dX3_slotOf_80 rfl ?_
        refine z_iret C E (by omega) (by omega) dX3_slotOf_82 ?_
        exact ⟨d, c29, hgo, Or.inl c44, rfl, rfl⟩
      · skip
        obtain ⟨j, hj, ej⟩ := (hT _ (by omega)).resolve_left c44
        rw [ej]
        refine z_aload_n (q := 48) C 1 rfl rfl dX3_slotOf_47 rfl ?_
        refine z_get (q := 51) (v := .ref (a 0)) C hiX3 0 0 rfl rfl (by decide) hf9 rfl dX3_slotOf_48 rfl ?_
        refine z_iload (q := 53) C 0 rfl dX3_slotOf_51 rfl ?_
        refine z_iald (q := 54) C 1 rfl (i := j) (by omega) (by decide) dX3_slotOf_53 rfl ?_
        refine z_iload_n (q := 55) C 2 rfl rfl dX3_slotOf_54 rfl ?_
        refine z_icmp_ne (q := 58) (tgt := 83) C dX3_slotOf_55 (by decide) rfl (fun c55 => ?_) (fun c55 => ?_)
        · skip
          refine z_iload (q := 85) C 5 rfl dX3_slotOf_83 rfl ?_
          refine z_iconst (q := 86) C k_iconst_1 dX3_slotOf_85 rfl ?_
          refine z_iadd (q := 87) C dX3_slotOf_86 rfl ?_
          refine z_eqi (y := nI (((hsh s p o + d) % 1024) + 1)) (nI_add ((hsh s p o + d) % 1024) 1) ?_
          refine z_sipush (q := 90) C k_sipush_1023 dX3_slotOf_87 rfl ?_
          refine z_iand (q := 91) C dX3_slotOf_90 rfl ?_
          refine z_eqi (y := nI ((hsh s p o + (d + 1)) % 1024)) (and1023 _ _) ?_
          refine z_istore (q := 93) (lv' := [(4, .int (nI ((hsh s p o + (d + 1)) % 1024))), (6, .int (nI j)), (0, .ref h), (1, .int s), (2, .int p), (3, .int o), (5, .int (nI d))]) C dX3_slotOf_91 rfl (by decide) rfl ?_
          refine z_iinc (q := 96) (v := nI (d + 1)) (lv' := [(5, .int (nI (d + 1))), (4, .int (nI ((hsh s p o + (d + 1)) % 1024))), (6, .int (nI j)), (0, .ref h), (1, .int s), (2, .int p), (3, .int o)]) C 6 dX3_slotOf_93 rfl rfl (k_inc1 d) (by decide) rfl ?_
          refine z_goto (tgt := 24) C dX3_slotOf_96 (by decide) ?_
          refine z_lv [3, 4, 5, 6, 1, 0] rfl ?_
          exact ih (d + 1) (by omega) (by omega) (fun e he => by rcases Nat.lt_succ_iff_lt_or_eq.mp he with h1 | h1; exact hgo e h1; exact h1 ▸ ⟨j, hj, ej, fun z => c55 z.1⟩)
        · skip
          refine z_aload_n (q := 59) C 1 rfl rfl dX3_slotOf_58 rfl ?_
          refine z_get (q := 62) (v := .ref (a 1)) C hiX3 0 1 rfl rfl (by decide) hf15 rfl dX3_slotOf_59 rfl ?_
          refine z_iload (q := 64) C 0 rfl dX3_slotOf_62 rfl ?_
          refine z_iald (q := 65) C 2 rfl (i := j) (by omega) (by decide) dX3_slotOf_64 rfl ?_
          refine z_iload_n (q := 66) C 3 rfl rfl dX3_slotOf_65 rfl ?_
          refine z_icmp_ne (q := 69) (tgt := 83) C dX3_slotOf_66 (by decide) rfl (fun c66 => ?_) (fun c66 => ?_)
          · skip
            refine z_iload (q := 85) C 5 rfl dX3_slotOf_83 rfl ?_
            refine z_iconst (q := 86) C k_iconst_1 dX3_slotOf_85 rfl ?_
            refine z_iadd (q := 87) C dX3_slotOf_86 rfl ?_
            refine z_eqi (y := nI (((hsh s p o + d) % 1024) + 1)) (nI_add ((hsh s p o + d) % 1024) 1) ?_
            refine z_sipush (q := 90) C k_sipush_1023 dX3_slotOf_87 rfl ?_
            refine z_iand (q := 91) C dX3_slotOf_90 rfl ?_
            refine z_eqi (y := nI ((hsh s p o + (d + 1)) % 1024)) (and1023 _ _) ?_
            refine z_istore (q := 93) (lv' := [(4, .int (nI ((hsh s p o + (d + 1)) % 1024))), (6, .int (nI j)), (0, .ref h), (1, .int s), (2, .int p), (3, .int o), (5, .int (nI d))]) C dX3_slotOf_91 rfl (by decide) rfl ?_
            refine z_iinc (q := 96) (v := nI (d + 1)) (lv' := [(5, .int (nI (d + 1))), (4, .int (nI ((hsh s p o + (d + 1)) % 1024))), (6, .int (nI j)), (0, .ref h), (1, .int s), (2, .int p), (3, .int o)]) C 6 dX3_slotOf_93 rfl rfl (k_inc1 d) (by decide) rfl ?_
            refine z_goto (tgt := 24) C dX3_slotOf_96 (by decide) ?_
            refine z_lv [3, 4, 5, 6, 1, 0] rfl ?_
            exact ih (d + 1) (by omega) (by omega) (fun e he => by rcases Nat.lt_succ_iff_lt_or_eq.mp he with h1 | h1; exact hgo e h1; exact h1 ▸ ⟨j, hj, ej, fun z => c66 z.2.1⟩)
          · skip
            refine z_aload_n (q := 70) C 1 rfl rfl dX3_slotOf_69 rfl ?_
            refine z_get (q := 73) (v := .ref (a 2)) C hiX3 0 2 rfl rfl (by decide) hf18 rfl dX3_slotOf_70 rfl ?_
            refine z_iload (q := 75) C 0 rfl dX3_slotOf_73 rfl ?_
            refine z_iald (q := 76) C 3 rfl (i := j) (by omega) (by decide) dX3_slotOf_75 rfl ?_
            refine z_iload_n (q := 77) C 4 rfl rfl dX3_slotOf_76 rfl ?_
            refine z_icmp_ne (q := 80) (tgt := 83) C dX3_slotOf_77 (by decide) rfl (fun c77 => ?_) (fun c77 => ?_)
            · skip
              refine z_iload (q := 85) C 5 rfl dX3_slotOf_83 rfl ?_
              refine z_iconst (q := 86) C k_iconst_1 dX3_slotOf_85 rfl ?_
              refine z_iadd (q := 87) C dX3_slotOf_86 rfl ?_
              refine z_eqi (y := nI (((hsh s p o + d) % 1024) + 1)) (nI_add ((hsh s p o + d) % 1024) 1) ?_
              refine z_sipush (q := 90) C k_sipush_1023 dX3_slotOf_87 rfl ?_
              refine z_iand (q := 91) C dX3_slotOf_90 rfl ?_
              refine z_eqi (y := nI ((hsh s p o + (d + 1)) % 1024)) (and1023 _ _) ?_
              refine z_istore (q := 93) (lv' := [(4, .int (nI ((hsh s p o + (d + 1)) % 1024))), (6, .int (nI j)), (0, .ref h), (1, .int s), (2, .int p), (3, .int o), (5, .int (nI d))]) C dX3_slotOf_91 rfl (by decide) rfl ?_
              refine z_iinc (q := 96) (v := nI (d + 1)) (lv' := [(5, .int (nI (d + 1))), (4, .int (nI ((hsh s p o + (d + 1)) % 1024))), (6, .int (nI j)), (0, .ref h), (1, .int s), (2, .int p), (3, .int o)]) C 6 dX3_slotOf_93 rfl rfl (k_inc1 d) (by decide) rfl ?_
              refine z_goto (tgt := 24) C dX3_slotOf_96 (by decide) ?_
              refine z_lv [3, 4, 5, 6, 1, 0] rfl ?_
              exact ih (d + 1) (by omega) (by omega) (fun e he => by rcases Nat.lt_succ_iff_lt_or_eq.mp he with h1 | h1; exact hgo e h1; exact h1 ▸ ⟨j, hj, ej, fun z => c77 z.2.2⟩)
            · skip
              refine z_iload (q := 82) C 5 rfl dX3_slotOf_80 rfl ?_
              refine z_iret C E (by omega) (by omega) dX3_slotOf_82 ?_
              exact ⟨d, c29, hgo, Or.inr ⟨j, hj, ej, c55, c66, c77⟩, rfl, rfl⟩

set_option maxHeartbeats 4000000 in
set_option maxRecDepth 100000 in
theorem c_X3_slotOf (l : Launch) (D : va_G) (g : ClassId × ClassId × ClassId) (h : Nat) (a : Nat → Nat) (F : Nat → Nat → Int32) (n : Nat) (ov am : Int32) (s p o : Int32) (hT : ∀ k, k < 1024 → F 7 k = (-1) ∨ ∃ j, j < 600 ∧ F 7 k = nI j) (hFr : ∃ d, d < 1024 ∧ F 7 ((hsh s p o + d) % 1024) = (-1)) : zM l yX3_slotOf wsX3_slotOf ({ frames := 0, cells := 0, slots := 0, locals := 0 } : Room) D g [.ref h, .int s, .int p, .int o] [(h, .inr (3, [.ref (a 0), .ref (a 1), .ref (a 2), .ref (a 3), .ref (a 4), .ref (a 5), .ref (a 6), .ref (a 7), .ref (a 8), .int (nI n), .int ov, .int am])), (a 0, .inl (g.1, 600, .inl (F 0))), (a 1, .inl (g.1, 600, .inl (F 1))), (a 2, .inl (g.1, 600, .inl (F 2))), (a 3, .inl (g.1, 600, .inl (F 3))), (a 4, .inl (g.1, 600, .inl (F 4))), (a 5, .inl (g.1, 600, .inl (F 5))), (a 6, .inl (g.1, 600, .inl (F 6))), (a 7, .inl (g.1, 1024, .inl (F 7))), (a 8, .inl (g.2.1, 600, .inl (F 8)))] 0 0 (fun v w1 => ∃ d, d < 1024 ∧ (∀ e, e < d → slotGo F s p o e) ∧ slotEnd F s p o d ∧ v = some (.int (nI ((hsh s p o + d) % 1024))) ∧ w1 = [(h, .inr (3, [.ref (a 0), .ref (a 1), .ref (a 2), .ref (a 3), .ref (a 4), .ref (a 5), .ref (a 6), .ref (a 7), .ref (a 8), .int (nI n), .int ov, .int am])), (a 0, .inl (g.1, 600, .inl (F 0))), (a 1, .inl (g.1, 600, .inl (F 1))), (a 2, .inl (g.1, 600, .inl (F 2))), (a 3, .inl (g.1, 600, .inl (F 3))), (a 4, .inl (g.1, 600, .inl (F 4))), (a 5, .inl (g.1, 600, .inl (F 5))), (a 6, .inl (g.1, 600, .inl (F 6))), (a 7, .inl (g.1, 1024, .inl (F 7))), (a 8, .inl (g.2.1, 600, .inl (F 8)))]) := by
  refine z_met (cc := cX3_slotOf) (maxL := 7) (ret := (some .int)) (lv := [(0, .ref h), (1, .int s), (2, .int p), (3, .int o)]) (by decide) rfl (Nat.le_of_ble_eq_true rfl) rfl ?_
  intro X hXD hXg hXl hnm C E
  subst hXD hXg hXl
  have C : zC X cX3_slotOf 7 RX3 wsX3_slotOf ({ frames := 0, cells := 0, slots := 0, locals := 0 } : Room) := C
  have hc61 : Cond.constant RX3 61 (-1640531527) ∈ wsX3_slotOf := by decide +kernel
  refine z_iload_n (q := 1) C 1 rfl rfl dX3_slotOf_0 rfl ?_
  refine z_sipush (q := 4) C k_sipush_613 dX3_slotOf_1 rfl ?_
  refine z_imul (q := 5) C dX3_slotOf_4 rfl ?_
  refine z_iload_n (q := 6) C 2 rfl rfl dX3_slotOf_5 rfl ?_
  refine z_iadd (q := 7) C dX3_slotOf_6 rfl ?_
  refine z_sipush (q := 10) C k_sipush_601 dX3_slotOf_7 rfl ?_
  refine z_imul (q := 11) C dX3_slotOf_10 rfl ?_
  refine z_iload_n (q := 12) C 3 rfl rfl dX3_slotOf_11 rfl ?_
  refine z_iadd (q := 13) C dX3_slotOf_12 rfl ?_
  refine z_ldc (q := 15) C hc61 dX3_slotOf_13 rfl ?_
  refine z_imul (q := 16) C dX3_slotOf_15 rfl ?_
  refine z_bipush (q := 18) C k_bipush_22 dX3_slotOf_16 rfl ?_
  refine z_iushr (q := 19) (v := ((((((s * (nI 613)) + p) * (nI 601)) + o) * (-1640531527 : Int32)).toUInt32 >>> ((nI 22).toUInt32 &&& Int32.toUInt32 31)).toInt32) C rfl dX3_slotOf_18 rfl ?_
  refine z_eqi (y := nI (hsh s p o)) (hsh_eq s p o) ?_
  refine z_eqi (y := nI ((hsh s p o + 0) % 1024)) (by rw [Nat.add_zero, Nat.mod_eq_of_lt (hsh_lt s p o)]) ?_
  refine z_istore (q := 21) (lv' := [(4, .int (nI ((hsh s p o + 0) % 1024))), (0, .ref h), (1, .int s), (2, .int p), (3, .int o)]) C dX3_slotOf_19 rfl (by decide) rfl ?_
  refine z_iconst (q := 22) C k_iconst_0 dX3_slotOf_21 rfl ?_
  refine z_istore (q := 24) (lv' := [(5, .int (nI 0)), (4, .int (nI ((hsh s p o + 0) % 1024))), (0, .ref h), (1, .int s), (2, .int p), (3, .int o)]) C dX3_slotOf_22 rfl (by decide) rfl ?_
  refine z_lv [2, 3, 4, 5, 1, 0] rfl ?_
  exact l_X3_slotOf h a F n ov am s p o hT hFr C E 1025 0 (by omega) (by omega) (fun e he => absurd he (Nat.not_lt_zero e))
