set_option maxHeartbeats 4000000 in
set_option maxRecDepth 100000 in
theorem c_X2_make (l : Launch) (D : va_G) (g : ClassId × ClassId × ClassId) (hr ht : Nat) (sp en : Nat) (rd : Int32) (rule : Nat) (x y : Int32) (h : Nat) (a : Nat → Nat) (F : Nat → Nat → Int32) (n : Nat) (ov : Bool) (am : Int32) (S : RSt) (hR : rowsRep F n ov S) (s p o : Int32) : zM l yX2_make wsX2_make ({ frames := 2, cells := 0, slots := 0, locals := 54 } : Room) D g [.ref hr, .int s, .int p, .int o] [(hr, .inr (2, [.ref ht, .ref h, .int (nI sp), .int (nI en), .int rd, .int (nI rule), .int x, .int y])), (h, .inr (3, [.ref (a 0), .ref (a 1), .ref (a 2), .ref (a 3), .ref (a 4), .ref (a 5), .ref (a 6), .ref (a 7), .ref (a 8), .int (nI n), .int (zb ov), .int am])), (a 0, .inl (g.1, 600, .inl (F 0))), (a 1, .inl (g.1, 600, .inl (F 1))), (a 2, .inl (g.1, 600, .inl (F 2))), (a 3, .inl (g.1, 600, .inl (F 3))), (a 4, .inl (g.1, 600, .inl (F 4))), (a 5, .inl (g.1, 600, .inl (F 5))), (a 6, .inl (g.1, 600, .inl (F 6))), (a 7, .inl (g.1, 1024, .inl (F 7))), (a 8, .inl (g.2.1, 600, .inl (F 8)))] 0 0 (fun v w1 => ∃ (F1 : Nat → Nat → Int32) (n1 : Nat) (o1 : Bool), rowsRep F1 n1 o1 (addR S (mkRow s p o (nI rule) x y rd)) ∧ v = none ∧ w1 = [(hr, .inr (2, [.ref ht, .ref h, .int (nI sp), .int (nI en), .int rd, .int (nI rule), .int x, .int y])), (h, .inr (3, [.ref (a 0), .ref (a 1), .ref (a 2), .ref (a 3), .ref (a 4), .ref (a 5), .ref (a 6), .ref (a 7), .ref (a 8), .int (nI n1), .int (zb o1), .int am])), (a 0, .inl (g.1, 600, .inl (F1 0))), (a 1, .inl (g.1, 600, .inl (F1 1))), (a 2, .inl (g.1, 600, .inl (F1 2))), (a 3, .inl (g.1, 600, .inl (F1 3))), (a 4, .inl (g.1, 600, .inl (F1 4))), (a 5, .inl (g.1, 600, .inl (F1 5))), (a 6, .inl (g.1, 600, .inl (F1 6))), (a 7, .inl (g.1, 1024, .inl (F1 7))), (a 8, .inl (g.2.1, 600, .inl (F1 8)))]) := by
  refine z_met (cc := cX2_make) (maxL := 4) (ret := none) (lv := [(0, .ref hr), (1, .int s), (2, .int p), (3, .int o)]) (by decide) rfl (Nat.le_of_ble_eq_true rfl) rfl ?_
  intro X hXD hXg hXl hnm C E
  subst hXD hXg hXl
  have C : zC X cX2_make 4 RX2 wsX2_make ({ frames := 2, cells := 0, slots := 0, locals := 54 } : Room) := C
  have hiX2 : ∀ w ∈ u_ws RX2 TX2 8, w ∈ wsX2_make := by decide +kernel
  have hf18 : Cond.fieldLink RX2 18 "RdfsRules$Reasoner" "round" "I" ∈ wsX2_make := by decide +kernel
  have hf21 : Cond.fieldLink RX2 21 "RdfsRules$Reasoner" "maker" "I" ∈ wsX2_make := by decide +kernel
  have hf24 : Cond.fieldLink RX2 24 "RdfsRules$Reasoner" "first" "I" ∈ wsX2_make := by decide +kernel
  have hf27 : Cond.fieldLink RX2 27 "RdfsRules$Reasoner" "second" "I" ∈ wsX2_make := by decide +kernel
  have hf34 : Cond.fieldLink RX2 34 "RdfsRules$Reasoner" "rows" "LRdfsRules$Rows;" ∈ wsX2_make := by decide +kernel
  refine z_aload_n (q := 1) C 0 rfl rfl dX2_make_0 rfl ?_
  refine z_get (q := 4) (v := .ref h) C hiX2 0 1 rfl rfl (by decide) hf34 rfl dX2_make_1 rfl ?_
  refine z_iload_n (q := 5) C 1 rfl rfl dX2_make_4 rfl ?_
  refine z_iload_n (q := 6) C 2 rfl rfl dX2_make_5 rfl ?_
  refine z_iload_n (q := 7) C 3 rfl rfl dX2_make_6 rfl ?_
  refine z_aload_n (q := 8) C 0 rfl rfl dX2_make_7 rfl ?_
  refine z_get (q := 11) (v := .int (nI rule)) C hiX2 0 5 rfl rfl (by decide) hf21 rfl dX2_make_8 rfl ?_
  refine z_aload_n (q := 12) C 0 rfl rfl dX2_make_11 rfl ?_
  refine z_get (q := 15) (v := .int x) C hiX2 0 6 rfl rfl (by decide) hf24 rfl dX2_make_12 rfl ?_
  refine z_aload_n (q := 16) C 0 rfl rfl dX2_make_15 rfl ?_
  refine z_get (q := 19) (v := .int y) C hiX2 0 7 rfl rfl (by decide) hf27 rfl dX2_make_16 rfl ?_
  refine z_aload_n (q := 20) C 0 rfl rfl dX2_make_19 rfl ?_
  refine z_get (q := 23) (v := .int rd) C hiX2 0 4 rfl rfl (by decide) hf18 rfl dX2_make_20 rfl ?_
  refine z_callV (q := 26) (n := 7) (As := [.int s, .int p, .int o, .int (nI rule), .int x, .int y, .int rd]) (rest := []) (wr := [(hr, .inr (2, [.ref ht, .ref h, .int (nI sp), .int (nI en), .int rd, .int (nI rule), .int x, .int y]))]) C (c_X3_addNew X.l X.D X.2.1 h a F n ov am S hR s p o (nI rule) x y rd) gX2_make_X3_addNew rfl rfl rfl (by decide +kernel) (by decide) ⟨by first | decide | omega, by first | decide | omega⟩ 0 3 rfl rfl [1, 2, 3, 4, 5, 6, 7, 8, 9, 10] [0] rfl rfl (by decide) (by decide) (by decide) rfl rfl (Nat.le_of_ble_eq_true rfl) dX2_make_23 rfl (fun v w1 hp => ?_)
  obtain ⟨F1, n1, o1, hR1, rfl, rfl⟩ := hp
  show zW X 4 [(hr, .inr (2, [.ref ht, .ref h, .int (nI sp), .int (nI en), .int rd, .int (nI rule), .int x, .int y])), (h, .inr (3, [.ref (a 0), .ref (a 1), .ref (a 2), .ref (a 3), .ref (a 4), .ref (a 5), .ref (a 6), .ref (a 7), .ref (a 8), .int (nI n1), .int (zb o1), .int am])), (a 0, .inl (X.cI, 600, .inl (F1 0))), (a 1, .inl (X.cI, 600, .inl (F1 1))), (a 2, .inl (X.cI, 600, .inl (F1 2))), (a 3, .inl (X.cI, 600, .inl (F1 3))), (a 4, .inl (X.cI, 600, .inl (F1 4))), (a 5, .inl (X.cI, 600, .inl (F1 5))), (a 6, .inl (X.cI, 600, .inl (F1 6))), (a 7, .inl (X.cI, 1024, .inl (F1 7))), (a 8, .inl (X.cZ, 600, .inl (F1 8)))] _ _ 26 _ []
  refine z_vret C E (by omega) (by omega) dX2_make_26 ?_
  exact ⟨F1, n1, o1, hR1, rfl, rfl⟩

set_option maxHeartbeats 4000000 in
set_option maxRecDepth 100000 in
theorem c_X2_firstProperty (l : Launch) (D : va_G) (g : ClassId × ClassId × ClassId) (hr ht h : Nat) (sp en : Nat) (rd : Int32) (rule : Nat) (x y : Int32) (hru : rule = 0 ∨ rule = 1 ∨ rule = 2 ∨ rule = 3 ∨ rule = 4 ∨ rule = 5 ∨ rule = 6 ∨ rule = 7 ∨ rule = 8 ∨ rule = 9 ∨ rule = 10 ∨ rule = 11 ∨ rule = 12 ∨ rule = 13) : zM l yX2_firstProperty wsX2_firstProperty ({ frames := 0, cells := 0, slots := 0, locals := 0 } : Room) D g [.ref hr] [(hr, .inr (2, [.ref ht, .ref h, .int (nI sp), .int (nI en), .int rd, .int (nI rule), .int x, .int y]))] 0 0 (fun v w1 => v = some (.int (firstP rule)) ∧ w1 = [(hr, .inr (2, [.ref ht, .ref h, .int (nI sp), .int (nI en), .int rd, .int (nI rule), .int x, .int y]))]) := by
  refine z_met (cc := cX2_firstProperty) (maxL := 1) (ret := (some .int)) (lv := [(0, .ref hr)]) (by decide) rfl (Nat.le_of_ble_eq_true rfl) rfl ?_
  intro X hXD hXg hXl hnm C E
  subst hXD hXg hXl
  have C : zC X cX2_firstProperty 1 RX2 wsX2_firstProperty ({ frames := 0, cells := 0, slots := 0, locals := 0 } : Room) := C
  have hiX2 : ∀ w ∈ u_ws RX2 TX2 8, w ∈ wsX2_firstProperty := by decide +kernel
  have hf21 : Cond.fieldLink RX2 21 "RdfsRules$Reasoner" "maker" "I" ∈ wsX2_firstProperty := by decide +kernel
  rcases hru with rfl | rfl | rfl | rfl | rfl | rfl | rfl | rfl | rfl | rfl | rfl | rfl | rfl | rfl
  · skip
    refine z_aload_n (q := 1) C 0 rfl rfl dX2_firstProperty_0 rfl ?_
    refine z_get (q := 4) (v := .int (nI 0)) C hiX2 0 5 rfl rfl (by decide) hf21 rfl dX2_firstProperty_1 rfl ?_
    refine z_tableOut (tgt := 70) C dX2_firstProperty_4 (by decide) (by decide) ?_
    refine z_iconst (q := 71) C k_iconst_m1 dX2_firstProperty_70 rfl ?_
    refine z_iret C E (by omega) (by omega) dX2_firstProperty_71 ?_
    exact ⟨rfl, rfl⟩
  · skip
    refine z_aload_n (q := 1) C 0 rfl rfl dX2_firstProperty_0 rfl ?_
    refine z_get (q := 4) (v := .int (nI 1)) C hiX2 0 5 rfl rfl (by decide) hf21 rfl dX2_firstProperty_1 rfl ?_
    refine z_tableOut (tgt := 70) C dX2_firstProperty_4 (by decide) (by decide) ?_
    refine z_iconst (q := 71) C k_iconst_m1 dX2_firstProperty_70 rfl ?_
    refine z_iret C E (by omega) (by omega) dX2_firstProperty_71 ?_
    exact ⟨rfl, rfl⟩
  · skip
    refine z_aload_n (q := 1) C 0 rfl rfl dX2_firstProperty_0 rfl ?_
    refine z_get (q := 4) (v := .int (nI 2)) C hiX2 0 5 rfl rfl (by decide) hf21 rfl dX2_firstProperty_1 rfl ?_
    refine z_tableIn (off := 56) (tgt := 60) C dX2_firstProperty_4 (by decide) (by decide) (by decide) (by decide) ?_
    refine z_bipush (q := 62) C k_bipush_6 dX2_firstProperty_60 rfl ?_
    refine z_iret C E (by omega) (by omega) dX2_firstProperty_62 ?_
    exact ⟨rfl, rfl⟩
  · skip
    refine z_aload_n (q := 1) C 0 rfl rfl dX2_firstProperty_0 rfl ?_
    refine z_get (q := 4) (v := .int (nI 3)) C hiX2 0 5 rfl rfl (by decide) hf21 rfl dX2_firstProperty_1 rfl ?_
    refine z_tableIn (off := 59) (tgt := 63) C dX2_firstProperty_4 (by decide) (by decide) (by decide) (by decide) ?_
    refine z_bipush (q := 65) C k_bipush_7 dX2_firstProperty_63 rfl ?_
    refine z_iret C E (by omega) (by omega) dX2_firstProperty_65 ?_
    exact ⟨rfl, rfl⟩
  · skip
    refine z_aload_n (q := 1) C 0 rfl rfl dX2_firstProperty_0 rfl ?_
    refine z_get (q := 4) (v := .int (nI 4)) C hiX2 0 5 rfl rfl (by decide) hf21 rfl dX2_firstProperty_1 rfl ?_
    refine z_tableIn (off := 66) (tgt := 70) C dX2_firstProperty_4 (by decide) (by decide) (by decide) (by decide) ?_
    refine z_iconst (q := 71) C k_iconst_m1 dX2_firstProperty_70 rfl ?_
    refine z_iret C E (by omega) (by omega) dX2_firstProperty_71 ?_
    exact ⟨rfl, rfl⟩
  · skip
    refine z_aload_n (q := 1) C 0 rfl rfl dX2_firstProperty_0 rfl ?_
    refine z_get (q := 4) (v := .int (nI 5)) C hiX2 0 5 rfl rfl (by decide) hf21 rfl dX2_firstProperty_1 rfl ?_
    refine z_tableIn (off := 62) (tgt := 66) C dX2_firstProperty_4 (by decide) (by decide) (by decide) (by decide) ?_
    refine z_iconst (q := 67) C k_iconst_5 dX2_firstProperty_66 rfl ?_
    refine z_iret C E (by omega) (by omega) dX2_firstProperty_67 ?_
    exact ⟨rfl, rfl⟩
  · skip
    refine z_aload_n (q := 1) C 0 rfl rfl dX2_firstProperty_0 rfl ?_
    refine z_get (q := 4) (v := .int (nI 6)) C hiX2 0 5 rfl rfl (by decide) hf21 rfl dX2_firstProperty_1 rfl ?_
    refine z_tableIn (off := 66) (tgt := 70) C dX2_firstProperty_4 (by decide) (by decide) (by decide) (by decide) ?_
    refine z_iconst (q := 71) C k_iconst_m1 dX2_firstProperty_70 rfl ?_
    refine z_iret C E (by omega) (by omega) dX2_firstProperty_71 ?_
    exact ⟨rfl, rfl⟩
  · skip
    refine z_aload_n (q := 1) C 0 rfl rfl dX2_firstProperty_0 rfl ?_
    refine z_get (q := 4) (v := .int (nI 7)) C hiX2 0 5 rfl rfl (by decide) hf21 rfl dX2_firstProperty_1 rfl ?_
    refine z_tableIn (off := 62) (tgt := 66) C dX2_firstProperty_4 (by decide) (by decide) (by decide) (by decide) ?_
    refine z_iconst (q := 67) C k_iconst_5 dX2_firstProperty_66 rfl ?_
    refine z_iret C E (by omega) (by omega) dX2_firstProperty_67 ?_
    exact ⟨rfl, rfl⟩
  · skip
    refine z_aload_n (q := 1) C 0 rfl rfl dX2_firstProperty_0 rfl ?_
    refine z_get (q := 4) (v := .int (nI 8)) C hiX2 0 5 rfl rfl (by decide) hf21 rfl dX2_firstProperty_1 rfl ?_
    refine z_tableIn (off := 66) (tgt := 70) C dX2_firstProperty_4 (by decide) (by decide) (by decide) (by decide) ?_
    refine z_iconst (q := 71) C k_iconst_m1 dX2_firstProperty_70 rfl ?_
    refine z_iret C E (by omega) (by omega) dX2_firstProperty_71 ?_
    exact ⟨rfl, rfl⟩
  · skip
    refine z_aload_n (q := 1) C 0 rfl rfl dX2_firstProperty_0 rfl ?_
    refine z_get (q := 4) (v := .int (nI 9)) C hiX2 0 5 rfl rfl (by decide) hf21 rfl dX2_firstProperty_1 rfl ?_
    refine z_tableIn (off := 64) (tgt := 68) C dX2_firstProperty_4 (by decide) (by decide) (by decide) (by decide) ?_
    refine z_iconst (q := 69) C k_iconst_4 dX2_firstProperty_68 rfl ?_
    refine z_iret C E (by omega) (by omega) dX2_firstProperty_69 ?_
    exact ⟨rfl, rfl⟩
  · skip
    refine z_aload_n (q := 1) C 0 rfl rfl dX2_firstProperty_0 rfl ?_
    refine z_get (q := 4) (v := .int (nI 10)) C hiX2 0 5 rfl rfl (by decide) hf21 rfl dX2_firstProperty_1 rfl ?_
    refine z_tableIn (off := 66) (tgt := 70) C dX2_firstProperty_4 (by decide) (by decide) (by decide) (by decide) ?_
    refine z_iconst (q := 71) C k_iconst_m1 dX2_firstProperty_70 rfl ?_
    refine z_iret C E (by omega) (by omega) dX2_firstProperty_71 ?_
    exact ⟨rfl, rfl⟩
  · skip
    refine z_aload_n (q := 1) C 0 rfl rfl dX2_firstProperty_0 rfl ?_
    refine z_get (q := 4) (v := .int (nI 11)) C hiX2 0 5 rfl rfl (by decide) hf21 rfl dX2_firstProperty_1 rfl ?_
    refine z_tableIn (off := 64) (tgt := 68) C dX2_firstProperty_4 (by decide) (by decide) (by decide) (by decide) ?_
    refine z_iconst (q := 69) C k_iconst_4 dX2_firstProperty_68 rfl ?_
    refine z_iret C E (by omega) (by omega) dX2_firstProperty_69 ?_
    exact ⟨rfl, rfl⟩
  · skip
    refine z_aload_n (q := 1) C 0 rfl rfl dX2_firstProperty_0 rfl ?_
    refine z_get (q := 4) (v := .int (nI 12)) C hiX2 0 5 rfl rfl (by decide) hf21 rfl dX2_firstProperty_1 rfl ?_
    refine z_tableOut (tgt := 70) C dX2_firstProperty_4 (by decide) (by decide) ?_
    refine z_iconst (q := 71) C k_iconst_m1 dX2_firstProperty_70 rfl ?_
    refine z_iret C E (by omega) (by omega) dX2_firstProperty_71 ?_
    exact ⟨rfl, rfl⟩
  · skip
    refine z_aload_n (q := 1) C 0 rfl rfl dX2_firstProperty_0 rfl ?_
    refine z_get (q := 4) (v := .int (nI 13)) C hiX2 0 5 rfl rfl (by decide) hf21 rfl dX2_firstProperty_1 rfl ?_
    refine z_tableOut (tgt := 70) C dX2_firstProperty_4 (by decide) (by decide) ?_
    refine z_iconst (q := 71) C k_iconst_m1 dX2_firstProperty_70 rfl ?_
    refine z_iret C E (by omega) (by omega) dX2_firstProperty_71 ?_
    exact ⟨rfl, rfl⟩

def setP (rule : Nat) : Nat := match rule with
  | 5 => 0
  | 11 => 0
  | 9 => 2
  | _ => 1

set_option maxHeartbeats 4000000 in
set_option maxRecDepth 100000 in
theorem c_X2_settledParts (l : Launch) (D : va_G) (g : ClassId × ClassId × ClassId) (hr ht h : Nat) (a : Nat → Nat) (n : Nat) (ov : Bool) (am : Int32) (sp en : Nat) (rd : Int32) (rule : Nat) (x y : Int32) (hru : rule = 2 ∨ rule = 3 ∨ rule = 5 ∨ rule = 7 ∨ rule = 9 ∨ rule = 11) : zM l yX2_settledParts wsX2_settledParts ({ frames := 0, cells := 0, slots := 0, locals := 0 } : Room) D g [.ref hr] [(hr, .inr (2, [.ref ht, .ref h, .int (nI sp), .int (nI en), .int rd, .int (nI rule), .int x, .int y])), (h, .inr (3, [.ref (a 0), .ref (a 1), .ref (a 2), .ref (a 3), .ref (a 4), .ref (a 5), .ref (a 6), .ref (a 7), .ref (a 8), .int (nI n), .int (zb ov), .int am]))] 0 0 (fun v w1 => v = some (.ref (a (setP rule))) ∧ w1 = [(hr, .inr (2, [.ref ht, .ref h, .int (nI sp), .int (nI en), .int rd, .int (nI rule), .int x, .int y])), (h, .inr (3, [.ref (a 0), .ref (a 1), .ref (a 2), .ref (a 3), .ref (a 4), .ref (a 5), .ref (a 6), .ref (a 7), .ref (a 8), .int (nI n), .int (zb ov), .int am]))]) := by
  refine z_met (cc := cX2_settledParts) (maxL := 1) (ret := (some (.array .int))) (lv := [(0, .ref hr)]) (by decide) rfl (Nat.le_of_ble_eq_true rfl) rfl ?_
  intro X hXD hXg hXl hnm C E
  subst hXD hXg hXl
  have C : zC X cX2_settledParts 1 RX2 wsX2_settledParts ({ frames := 0, cells := 0, slots := 0, locals := 0 } : Room) := C
  have hiX2 : ∀ w ∈ u_ws RX2 TX2 8, w ∈ wsX2_settledParts := by decide +kernel
  have hiX3 : ∀ w ∈ u_ws RX3 TX3 12, w ∈ wsX2_settledParts := by decide +kernel
  have hf21 : Cond.fieldLink RX2 21 "RdfsRules$Reasoner" "maker" "I" ∈ wsX2_settledParts := by decide +kernel
  have hf34 : Cond.fieldLink RX2 34 "RdfsRules$Reasoner" "rows" "LRdfsRules$Rows;" ∈ wsX2_settledParts := by decide +kernel
  have hf57 : Cond.fieldLink RX2 57 "RdfsRules$Rows" "subjects" "[I" ∈ wsX2_settledParts := by decide +kernel
  have hf61 : Cond.fieldLink RX2 61 "RdfsRules$Rows" "objects" "[I" ∈ wsX2_settledParts := by decide +kernel
  have hf64 : Cond.fieldLink RX2 64 "RdfsRules$Rows" "properties" "[I" ∈ wsX2_settledParts := by decide +kernel
  rcases hru with rfl | rfl | rfl | rfl | rfl | rfl
  · skip
    refine z_aload_n (q := 1) C 0 rfl rfl dX2_settledParts_0 rfl ?_
    refine z_get (q := 4) (v := .int (nI 2)) C hiX2 0 5 rfl rfl (by decide) hf21 rfl dX2_settledParts_1 rfl ?_
    refine z_lookup (off := 52) (tgt := 56) C dX2_settledParts_4 (by decide) (by decide) (by decide) ?_
    refine z_aload_n (q := 57) C 0 rfl rfl dX2_settledParts_56 rfl ?_
    refine z_get (q := 60) (v := .ref h) C hiX2 0 1 rfl rfl (by decide) hf34 rfl dX2_settledParts_57 rfl ?_
    refine z_get (q := 63) (v := .ref (a 1)) C hiX3 1 1 rfl rfl (by decide) hf64 rfl dX2_settledParts_60 rfl ?_
    refine z_aret C E (by omega) (by omega) (by first | exact Or.inr ⟨_, rfl⟩ | exact Or.inl ⟨_, rfl⟩) dX2_settledParts_63 ?_
    exact ⟨rfl, rfl⟩
  · skip
    refine z_aload_n (q := 1) C 0 rfl rfl dX2_settledParts_0 rfl ?_
    refine z_get (q := 4) (v := .int (nI 3)) C hiX2 0 5 rfl rfl (by decide) hf21 rfl dX2_settledParts_1 rfl ?_
    refine z_lookup (off := 52) (tgt := 56) C dX2_settledParts_4 (by decide) (by decide) (by decide) ?_
    refine z_aload_n (q := 57) C 0 rfl rfl dX2_settledParts_56 rfl ?_
    refine z_get (q := 60) (v := .ref h) C hiX2 0 1 rfl rfl (by decide) hf34 rfl dX2_settledParts_57 rfl ?_
    refine z_get (q := 63) (v := .ref (a 1)) C hiX3 1 1 rfl rfl (by decide) hf64 rfl dX2_settledParts_60 rfl ?_
    refine z_aret C E (by omega) (by omega) (by first | exact Or.inr ⟨_, rfl⟩ | exact Or.inl ⟨_, rfl⟩) dX2_settledParts_63 ?_
    exact ⟨rfl, rfl⟩
  · skip
    refine z_aload_n (q := 1) C 0 rfl rfl dX2_settledParts_0 rfl ?_
    refine z_get (q := 4) (v := .int (nI 5)) C hiX2 0 5 rfl rfl (by decide) hf21 rfl dX2_settledParts_1 rfl ?_
    refine z_lookup (off := 36) (tgt := 40) C dX2_settledParts_4 (by decide) (by decide) (by decide) ?_
    refine z_aload_n (q := 41) C 0 rfl rfl dX2_settledParts_40 rfl ?_
    refine z_get (q := 44) (v := .ref h) C hiX2 0 1 rfl rfl (by decide) hf34 rfl dX2_settledParts_41 rfl ?_
    refine z_get (q := 47) (v := .ref (a 0)) C hiX3 1 0 rfl rfl (by decide) hf57 rfl dX2_settledParts_44 rfl ?_
    refine z_aret C E (by omega) (by omega) (by first | exact Or.inr ⟨_, rfl⟩ | exact Or.inl ⟨_, rfl⟩) dX2_settledParts_47 ?_
    exact ⟨rfl, rfl⟩
  · skip
    refine z_aload_n (q := 1) C 0 rfl rfl dX2_settledParts_0 rfl ?_
    refine z_get (q := 4) (v := .int (nI 7)) C hiX2 0 5 rfl rfl (by decide) hf21 rfl dX2_settledParts_1 rfl ?_
    refine z_lookup (off := 52) (tgt := 56) C dX2_settledParts_4 (by decide) (by decide) (by decide) ?_
    refine z_aload_n (q := 57) C 0 rfl rfl dX2_settledParts_56 rfl ?_
    refine z_get (q := 60) (v := .ref h) C hiX2 0 1 rfl rfl (by decide) hf34 rfl dX2_settledParts_57 rfl ?_
    refine z_get (q := 63) (v := .ref (a 1)) C hiX3 1 1 rfl rfl (by decide) hf64 rfl dX2_settledParts_60 rfl ?_
    refine z_aret C E (by omega) (by omega) (by first | exact Or.inr ⟨_, rfl⟩ | exact Or.inl ⟨_, rfl⟩) dX2_settledParts_63 ?_
    exact ⟨rfl, rfl⟩
  · skip
    refine z_aload_n (q := 1) C 0 rfl rfl dX2_settledParts_0 rfl ?_
    refine z_get (q := 4) (v := .int (nI 9)) C hiX2 0 5 rfl rfl (by decide) hf21 rfl dX2_settledParts_1 rfl ?_
    refine z_lookup (off := 44) (tgt := 48) C dX2_settledParts_4 (by decide) (by decide) (by decide) ?_
    refine z_aload_n (q := 49) C 0 rfl rfl dX2_settledParts_48 rfl ?_
    refine z_get (q := 52) (v := .ref h) C hiX2 0 1 rfl rfl (by decide) hf34 rfl dX2_settledParts_49 rfl ?_
    refine z_get (q := 55) (v := .ref (a 2)) C hiX3 1 2 rfl rfl (by decide) hf61 rfl dX2_settledParts_52 rfl ?_
    refine z_aret C E (by omega) (by omega) (by first | exact Or.inr ⟨_, rfl⟩ | exact Or.inl ⟨_, rfl⟩) dX2_settledParts_55 ?_
    exact ⟨rfl, rfl⟩
  · skip
    refine z_aload_n (q := 1) C 0 rfl rfl dX2_settledParts_0 rfl ?_
    refine z_get (q := 4) (v := .int (nI 11)) C hiX2 0 5 rfl rfl (by decide) hf21 rfl dX2_settledParts_1 rfl ?_
    refine z_lookup (off := 36) (tgt := 40) C dX2_settledParts_4 (by decide) (by decide) (by decide) ?_
    refine z_aload_n (q := 41) C 0 rfl rfl dX2_settledParts_40 rfl ?_
    refine z_get (q := 44) (v := .ref h) C hiX2 0 1 rfl rfl (by decide) hf34 rfl dX2_settledParts_41 rfl ?_
    refine z_get (q := 47) (v := .ref (a 0)) C hiX3 1 0 rfl rfl (by decide) hf57 rfl dX2_settledParts_44 rfl ?_
    refine z_aret C E (by omega) (by omega) (by first | exact Or.inr ⟨_, rfl⟩ | exact Or.inl ⟨_, rfl⟩) dX2_settledParts_47 ?_
    exact ⟨rfl, rfl⟩

set_option maxHeartbeats 4000000 in
set_option maxRecDepth 100000 in
theorem c_X2_makeOfOne (l : Launch) (D : va_G) (g : ClassId × ClassId × ClassId) (hr ht : Nat) (sp en : Nat) (rd : Int32) (rule : Nat) (x y : Int32) (ta nl : Nat) (hnl : nl ≤ 40) (tf : Nat → Int32) (h : Nat) (a : Nat → Nat) (F : Nat → Nat → Int32) (n : Nat) (ov : Bool) (am : Int32) (S : RSt) (hR : rowsRep F n ov S) (s p o : Int32) (hru : rule = 0 ∨ rule = 1 ∨ rule = 4 ∨ rule = 6 ∨ rule = 8 ∨ rule = 10 ∨ rule = 12 ∨ rule = 13) : zM l yX2_makeOfOne wsX2_makeOfOne ({ frames := 3, cells := 0, slots := 0, locals := 77 } : Room) D g [.ref hr, .int s, .int p, .int o] [(hr, .inr (2, [.ref ht, .ref h, .int (nI sp), .int (nI en), .int rd, .int (nI rule), .int x, .int y])), (ht, .inr (4, [.ref ta, .int (nI nl)])), (ta, .inl (g.1, 40, .inl tf)), (h, .inr (3, [.ref (a 0), .ref (a 1), .ref (a 2), .ref (a 3), .ref (a 4), .ref (a 5), .ref (a 6), .ref (a 7), .ref (a 8), .int (nI n), .int (zb ov), .int am])), (a 0, .inl (g.1, 600, .inl (F 0))), (a 1, .inl (g.1, 600, .inl (F 1))), (a 2, .inl (g.1, 600, .inl (F 2))), (a 3, .inl (g.1, 600, .inl (F 3))), (a 4, .inl (g.1, 600, .inl (F 4))), (a 5, .inl (g.1, 600, .inl (F 5))), (a 6, .inl (g.1, 600, .inl (F 6))), (a 7, .inl (g.1, 1024, .inl (F 7))), (a 8, .inl (g.2.1, 600, .inl (F 8)))] 0 0 (fun v w1 => ∃ (F1 : Nat → Nat → Int32) (n1 : Nat) (o1 : Bool), rowsRep F1 n1 o1 (addL S rule x y rd (oneL nl tf rule s p o)) ∧ v = none ∧ w1 = [(hr, .inr (2, [.ref ht, .ref h, .int (nI sp), .int (nI en), .int rd, .int (nI rule), .int x, .int y])), (ht, .inr (4, [.ref ta, .int (nI nl)])), (ta, .inl (g.1, 40, .inl tf)), (h, .inr (3, [.ref (a 0), .ref (a 1), .ref (a 2), .ref (a 3), .ref (a 4), .ref (a 5), .ref (a 6), .ref (a 7), .ref (a 8), .int (nI n1), .int (zb o1), .int am])), (a 0, .inl (g.1, 600, .inl (F1 0))), (a 1, .inl (g.1, 600, .inl (F1 1))), (a 2, .inl (g.1, 600, .inl (F1 2))), (a 3, .inl (g.1, 600, .inl (F1 3))), (a 4, .inl (g.1, 600, .inl (F1 4))), (a 5, .inl (g.1, 600, .inl (F1 5))), (a 6, .inl (g.1, 600, .inl (F1 6))), (a 7, .inl (g.1, 1024, .inl (F1 7))), (a 8, .inl (g.2.1, 600, .inl (F1 8)))]) := by
  refine z_met (cc := cX2_makeOfOne) (maxL := 4) (ret := none) (lv := [(0, .ref hr), (1, .int s), (2, .int p), (3, .int o)]) (by decide) rfl (Nat.le_of_ble_eq_true rfl) rfl ?_
  intro X hXD hXg hXl hnm C E
  subst hXD hXg hXl
  have C : zC X cX2_makeOfOne 4 RX2 wsX2_makeOfOne ({ frames := 3, cells := 0, slots := 0, locals := 77 } : Room) := C
  have hiX2 : ∀ w ∈ u_ws RX2 TX2 8, w ∈ wsX2_makeOfOne := by decide +kernel
  have hf21 : Cond.fieldLink RX2 21 "RdfsRules$Reasoner" "maker" "I" ∈ wsX2_makeOfOne := by decide +kernel
  have hf30 : Cond.fieldLink RX2 30 "RdfsRules$Reasoner" "terms" "LRdfsRules$Terms;" ∈ wsX2_makeOfOne := by decide +kernel
  rcases hru with rfl | rfl | rfl | rfl | rfl | rfl | rfl | rfl
  · skip
    refine z_aload_n (q := 1) C 0 rfl rfl dX2_makeOfOne_0 rfl ?_
    refine z_get (q := 4) (v := .int (nI 0)) C hiX2 0 5 rfl rfl (by decide) hf21 rfl dX2_makeOfOne_1 rfl ?_
    refine z_if_ne_n (q := 7) (tgt := 35) C (by omega) dX2_makeOfOne_4 (by decide) rfl (fun c4 => ?_) (fun c4 => ?_)
    · exact absurd c4 (by decide)
    · skip
      refine z_aload_n (q := 8) C 0 rfl rfl dX2_makeOfOne_7 rfl ?_
      refine z_get (q := 11) (v := .ref ht) C hiX2 0 0 rfl rfl (by decide) hf30 rfl dX2_makeOfOne_8 rfl ?_
      refine z_iload_n (q := 12) C 3 rfl rfl dX2_makeOfOne_11 rfl ?_
      refine z_callV (q := 15) (n := 1) (As := [.int o]) (rest := []) (wr := [(hr, .inr (2, [.ref ht, .ref h, .int (nI sp), .int (nI en), .int rd, .int (nI 0), .int x, .int y])), (ta, .inl (X.cI, 40, .inl tf)), (h, .inr (3, [.ref (a 0), .ref (a 1), .ref (a 2), .ref (a 3), .ref (a 4), .ref (a 5), .ref (a 6), .ref (a 7), .ref (a 8), .int (nI n), .int (zb ov), .int am])), (a 0, .inl (X.cI, 600, .inl (F 0))), (a 1, .inl (X.cI, 600, .inl (F 1))), (a 2, .inl (X.cI, 600, .inl (F 2))), (a 3, .inl (X.cI, 600, .inl (F 3))), (a 4, .inl (X.cI, 600, .inl (F 4))), (a 5, .inl (X.cI, 600, .inl (F 5))), (a 6, .inl (X.cI, 600, .inl (F 6))), (a 7, .inl (X.cI, 1024, .inl (F 7))), (a 8, .inl (X.cZ, 600, .inl (F 8)))]) C (c_X4_isLiteral X.l X.D X.2.1 ht ta nl hnl o) gX2_makeOfOne_X4_isLiteral rfl rfl rfl (by decide +kernel) (by decide) ⟨by first | decide | omega, by first | decide | omega⟩ 0 4 rfl rfl [1] [0, 2, 3, 4, 5, 6, 7, 8, 9, 10, 11, 12] rfl rfl (by decide) (by decide) (by decide) rfl rfl (Nat.le_of_ble_eq_true rfl) dX2_makeOfOne_12 rfl (fun v w1 hp => ?_)
      obtain ⟨rfl, rfl⟩ := hp
      show zW X 4 [(hr, .inr (2, [.ref ht, .ref h, .int (nI sp), .int (nI en), .int rd, .int (nI 0), .int x, .int y])), (ta, .inl (X.cI, 40, .inl tf)), (h, .inr (3, [.ref (a 0), .ref (a 1), .ref (a 2), .ref (a 3), .ref (a 4), .ref (a 5), .ref (a 6), .ref (a 7), .ref (a 8), .int (nI n), .int (zb ov), .int am])), (a 0, .inl (X.cI, 600, .inl (F 0))), (a 1, .inl (X.cI, 600, .inl (F 1))), (a 2, .inl (X.cI, 600, .inl (F 2))), (a 3, .inl (X.cI, 600, .inl (F 3))), (a 4, .inl (X.cI, 600, .inl (F 4))), (a 5, .inl (X.cI, 600, .inl (F 5))), (a 6, .inl (X.cI, 600, .inl (F 6))), (a 7, .inl (X.cI, 1024, .inl (F 7))), (a 8, .inl (X.cZ, 600, .inl (F 8))), (ht, .inr (4, [.ref ta, .int (nI nl)]))] _ _ 15 _ [.int (zb (litB nl o))]
      refine z_if_eq_b (q := 18) (tgt := 35) C dX2_makeOfOne_15 (by decide) rfl (fun c15 => ?_) (fun c15 => ?_)
      · skip
        refine z_aload_n (q := 36) C 0 rfl rfl dX2_makeOfOne_35 rfl ?_
        refine z_get (q := 39) (v := .int (nI 0)) C hiX2 0 5 rfl rfl (by decide) hf21 rfl dX2_makeOfOne_36 rfl ?_
        refine z_iconst (q := 40) C k_iconst_1 dX2_makeOfOne_39 rfl ?_
        refine z_icmp_ne_n (q := 43) (tgt := 53) C (by omega) (by omega) dX2_makeOfOne_40 (by decide) rfl (fun c40 => ?_) (fun c40 => ?_)
        · skip
          refine z_aload_n (q := 54) C 0 rfl rfl dX2_makeOfOne_53 rfl ?_
          refine z_get (q := 57) (v := .int (nI 0)) C hiX2 0 5 rfl rfl (by decide) hf21 rfl dX2_makeOfOne_54 rfl ?_
          refine z_iconst (q := 58) C k_iconst_4 dX2_makeOfOne_57 rfl ?_
          refine z_icmp_ne_n (q := 61) (tgt := 78) C (by omega) (by omega) dX2_makeOfOne_58 (by decide) rfl (fun c58 => ?_) (fun c58 => ?_)
          · skip
            refine z_aload_n (q := 79) C 0 rfl rfl dX2_makeOfOne_78 rfl ?_
            refine z_get (q := 82) (v := .int (nI 0)) C hiX2 0 5 rfl rfl (by decide) hf21 rfl dX2_makeOfOne_79 rfl ?_
            refine z_bipush (q := 84) C k_bipush_6 dX2_makeOfOne_82 rfl ?_
            refine z_icmp_ne_n (q := 87) (tgt := 106) C (by omega) (by omega) dX2_makeOfOne_84 (by decide) rfl (fun c84 => ?_) (fun c84 => ?_)
            · skip
              refine z_aload_n (q := 107) C 0 rfl rfl dX2_makeOfOne_106 rfl ?_
              refine z_get (q := 110) (v := .int (nI 0)) C hiX2 0 5 rfl rfl (by decide) hf21 rfl dX2_makeOfOne_107 rfl ?_
              refine z_bipush (q := 112) C k_bipush_8 dX2_makeOfOne_110 rfl ?_
              refine z_icmp_ne_n (q := 115) (tgt := 134) C (by omega) (by omega) dX2_makeOfOne_112 (by decide) rfl (fun c112 => ?_) (fun c112 => ?_)
              · skip
                refine z_aload_n (q := 135) C 0 rfl rfl dX2_makeOfOne_134 rfl ?_
                refine z_get (q := 138) (v := .int (nI 0)) C hiX2 0 5 rfl rfl (by decide) hf21 rfl dX2_makeOfOne_135 rfl ?_
                refine z_bipush (q := 140) C k_bipush_10 dX2_makeOfOne_138 rfl ?_
                refine z_icmp_ne_n (q := 143) (tgt := 162) C (by omega) (by omega) dX2_makeOfOne_140 (by decide) rfl (fun c140 => ?_) (fun c140 => ?_)
                · skip
                  refine z_aload_n (q := 163) C 0 rfl rfl dX2_makeOfOne_162 rfl ?_
                  refine z_get (q := 166) (v := .int (nI 0)) C hiX2 0 5 rfl rfl (by decide) hf21 rfl dX2_makeOfOne_163 rfl ?_
                  refine z_bipush (q := 168) C k_bipush_12 dX2_makeOfOne_166 rfl ?_
                  refine z_icmp_ne_n (q := 171) (tgt := 192) C (by omega) (by omega) dX2_makeOfOne_168 (by decide) rfl (fun c168 => ?_) (fun c168 => ?_)
                  · skip
                    refine z_aload_n (q := 193) C 0 rfl rfl dX2_makeOfOne_192 rfl ?_
                    refine z_get (q := 196) (v := .int (nI 0)) C hiX2 0 5 rfl rfl (by decide) hf21 rfl dX2_makeOfOne_193 rfl ?_
                    refine z_bipush (q := 198) C k_bipush_13 dX2_makeOfOne_196 rfl ?_
                    refine z_icmp_ne_n (q := 201) (tgt := 219) C (by omega) (by omega) dX2_makeOfOne_198 (by decide) rfl (fun c198 => ?_) (fun c198 => ?_)
                    · skip
                      refine z_ws (ws' := [(hr, .inr (2, [.ref ht, .ref h, .int (nI sp), .int (nI en), .int rd, .int (nI 0), .int x, .int y])), (ht, .inr (4, [.ref ta, .int (nI nl)])), (ta, .inl (X.cI, 40, .inl tf)), (h, .inr (3, [.ref (a 0), .ref (a 1), .ref (a 2), .ref (a 3), .ref (a 4), .ref (a 5), .ref (a 6), .ref (a 7), .ref (a 8), .int (nI n), .int (zb ov), .int am])), (a 0, .inl (X.cI, 600, .inl (F 0))), (a 1, .inl (X.cI, 600, .inl (F 1))), (a 2, .inl (X.cI, 600, .inl (F 2))), (a 3, .inl (X.cI, 600, .inl (F 3))), (a 4, .inl (X.cI, 600, .inl (F 4))), (a 5, .inl (X.cI, 600, .inl (F 5))), (a 6, .inl (X.cI, 600, .inl (F 6))), (a 7, .inl (X.cI, 1024, .inl (F 7))), (a 8, .inl (X.cZ, 600, .inl (F 8)))]) [0, 12, 1, 2, 3, 4, 5, 6, 7, 8, 9, 10, 11] (by decide) rfl ?_
                      refine z_vret C E (by omega) (by omega) dX2_makeOfOne_219 ?_
                      refine ⟨F, n, ov, ?_, rfl, rfl⟩
                      rw [show oneL nl tf 0 s p o = _ from if_neg (by rw [c15]; decide)]
                      exact hR
                    · exact absurd c198 (by decide)
                  · exact absurd c168 (by decide)
                · exact absurd c140 (by decide)
              · exact absurd c112 (by decide)
            · exact absurd c84 (by decide)
          · exact absurd c58 (by decide)
        · exact absurd c40 (by decide)
      · skip
        refine z_aload_n (q := 19) C 0 rfl rfl dX2_makeOfOne_18 rfl ?_
        refine z_iload_n (q := 20) C 3 rfl rfl dX2_makeOfOne_19 rfl ?_
        refine z_iconst (q := 21) C k_iconst_0 dX2_makeOfOne_20 rfl ?_
        refine z_aload_n (q := 22) C 0 rfl rfl dX2_makeOfOne_21 rfl ?_
        refine z_get (q := 25) (v := .ref ht) C hiX2 0 0 rfl rfl (by decide) hf30 rfl dX2_makeOfOne_22 rfl ?_
        refine z_iload_n (q := 26) C 3 rfl rfl dX2_makeOfOne_25 rfl ?_
        refine z_callV (q := 29) (n := 1) (As := [.int o]) (rest := [.int (nI 0), .int o, .ref hr]) (wr := [(hr, .inr (2, [.ref ht, .ref h, .int (nI sp), .int (nI en), .int rd, .int (nI 0), .int x, .int y])), (h, .inr (3, [.ref (a 0), .ref (a 1), .ref (a 2), .ref (a 3), .ref (a 4), .ref (a 5), .ref (a 6), .ref (a 7), .ref (a 8), .int (nI n), .int (zb ov), .int am])), (a 0, .inl (X.cI, 600, .inl (F 0))), (a 1, .inl (X.cI, 600, .inl (F 1))), (a 2, .inl (X.cI, 600, .inl (F 2))), (a 3, .inl (X.cI, 600, .inl (F 3))), (a 4, .inl (X.cI, 600, .inl (F 4))), (a 5, .inl (X.cI, 600, .inl (F 5))), (a 6, .inl (X.cI, 600, .inl (F 6))), (a 7, .inl (X.cI, 1024, .inl (F 7))), (a 8, .inl (X.cZ, 600, .inl (F 8)))]) C (c_X4_typeOf X.l X.D X.2.1 ht ta tf nl hnl o) gX2_makeOfOne_X4_typeOf rfl rfl rfl (by decide +kernel) (by decide) ⟨by first | decide | omega, by first | decide | omega⟩ 0 4 rfl rfl [12, 1] [0, 2, 3, 4, 5, 6, 7, 8, 9, 10, 11] rfl rfl (by decide) (by decide) (by decide) rfl rfl (Nat.le_of_ble_eq_true rfl) dX2_makeOfOne_26 rfl (fun v w1 hp => ?_)
        obtain ⟨rfl, rfl⟩ := hp
        show zW X 4 [(hr, .inr (2, [.ref ht, .ref h, .int (nI sp), .int (nI en), .int rd, .int (nI 0), .int x, .int y])), (h, .inr (3, [.ref (a 0), .ref (a 1), .ref (a 2), .ref (a 3), .ref (a 4), .ref (a 5), .ref (a 6), .ref (a 7), .ref (a 8), .int (nI n), .int (zb ov), .int am])), (a 0, .inl (X.cI, 600, .inl (F 0))), (a 1, .inl (X.cI, 600, .inl (F 1))), (a 2, .inl (X.cI, 600, .inl (F 2))), (a 3, .inl (X.cI, 600, .inl (F 3))), (a 4, .inl (X.cI, 600, .inl (F 4))), (a 5, .inl (X.cI, 600, .inl (F 5))), (a 6, .inl (X.cI, 600, .inl (F 6))), (a 7, .inl (X.cI, 1024, .inl (F 7))), (a 8, .inl (X.cZ, 600, .inl (F 8))), (ht, .inr (4, [.ref ta, .int (nI nl)])), (ta, .inl (X.cI, 40, .inl tf))] _ _ 29 _ [.int (if litB nl o then tf (o.toInt.toNat - 300) else -1), .int (nI 0), .int o, .ref hr]
        refine z_eqi (y := tf (o.toInt.toNat - 300)) (if_pos c15) ?_
        refine z_callV (q := 32) (n := 3) (As := [.int o, .int (nI 0), .int (tf (o.toInt.toNat - 300))]) (rest := []) (wr := [(ht, .inr (4, [.ref ta, .int (nI nl)])), (ta, .inl (X.cI, 40, .inl tf))]) C (c_X2_make X.l X.D X.2.1 hr ht sp en rd 0 x y h a F n ov am S hR o (nI 0) (tf (o.toInt.toNat - 300))) gX2_makeOfOne_X2_make rfl rfl rfl (by decide +kernel) (by decide) ⟨by first | decide | omega, by first | decide | omega⟩ 0 2 rfl rfl [0, 1, 2, 3, 4, 5, 6, 7, 8, 9, 10] [11, 12] rfl rfl (by decide) (by decide) (by decide) rfl rfl (Nat.le_of_ble_eq_true rfl) dX2_makeOfOne_29 rfl (fun v w1 hp => ?_)
        obtain ⟨F1, n1, o1, hR1, rfl, rfl⟩ := hp
        show zW X 4 [(ht, .inr (4, [.ref ta, .int (nI nl)])), (ta, .inl (X.cI, 40, .inl tf)), (hr, .inr (2, [.ref ht, .ref h, .int (nI sp), .int (nI en), .int rd, .int (nI 0), .int x, .int y])), (h, .inr (3, [.ref (a 0), .ref (a 1), .ref (a 2), .ref (a 3), .ref (a 4), .ref (a 5), .ref (a 6), .ref (a 7), .ref (a 8), .int (nI n1), .int (zb o1), .int am])), (a 0, .inl (X.cI, 600, .inl (F1 0))), (a 1, .inl (X.cI, 600, .inl (F1 1))), (a 2, .inl (X.cI, 600, .inl (F1 2))), (a 3, .inl (X.cI, 600, .inl (F1 3))), (a 4, .inl (X.cI, 600, .inl (F1 4))), (a 5, .inl (X.cI, 600, .inl (F1 5))), (a 6, .inl (X.cI, 600, .inl (F1 6))), (a 7, .inl (X.cI, 1024, .inl (F1 7))), (a 8, .inl (X.cZ, 600, .inl (F1 8)))] _ _ 32 _ []
        refine z_goto (tgt := 219) C dX2_makeOfOne_32 (by decide) ?_
        refine z_ws (ws' := [(hr, .inr (2, [.ref ht, .ref h, .int (nI sp), .int (nI en), .int rd, .int (nI 0), .int x, .int y])), (ht, .inr (4, [.ref ta, .int (nI nl)])), (ta, .inl (X.cI, 40, .inl tf)), (h, .inr (3, [.ref (a 0), .ref (a 1), .ref (a 2), .ref (a 3), .ref (a 4), .ref (a 5), .ref (a 6), .ref (a 7), .ref (a 8), .int (nI n1), .int (zb o1), .int am])), (a 0, .inl (X.cI, 600, .inl (F1 0))), (a 1, .inl (X.cI, 600, .inl (F1 1))), (a 2, .inl (X.cI, 600, .inl (F1 2))), (a 3, .inl (X.cI, 600, .inl (F1 3))), (a 4, .inl (X.cI, 600, .inl (F1 4))), (a 5, .inl (X.cI, 600, .inl (F1 5))), (a 6, .inl (X.cI, 600, .inl (F1 6))), (a 7, .inl (X.cI, 1024, .inl (F1 7))), (a 8, .inl (X.cZ, 600, .inl (F1 8)))]) [2, 0, 1, 3, 4, 5, 6, 7, 8, 9, 10, 11, 12] (by decide) rfl ?_
        refine z_vret C E (by omega) (by omega) dX2_makeOfOne_219 ?_
        refine ⟨F1, n1, o1, ?_, rfl, rfl⟩
        rw [show oneL nl tf 0 s p o = _ from if_pos c15]
        exact hR1
  · skip
    refine z_aload_n (q := 1) C 0 rfl rfl dX2_makeOfOne_0 rfl ?_
    refine z_get (q := 4) (v := .int (nI 1)) C hiX2 0 5 rfl rfl (by decide) hf21 rfl dX2_makeOfOne_1 rfl ?_
    refine z_if_ne_n (q := 7) (tgt := 35) C (by omega) dX2_makeOfOne_4 (by decide) rfl (fun c4 => ?_) (fun c4 => ?_)
    · skip
      refine z_aload_n (q := 36) C 0 rfl rfl dX2_makeOfOne_35 rfl ?_
      refine z_get (q := 39) (v := .int (nI 1)) C hiX2 0 5 rfl rfl (by decide) hf21 rfl dX2_makeOfOne_36 rfl ?_
      refine z_iconst (q := 40) C k_iconst_1 dX2_makeOfOne_39 rfl ?_
      refine z_icmp_ne_n (q := 43) (tgt := 53) C (by omega) (by omega) dX2_makeOfOne_40 (by decide) rfl (fun c40 => ?_) (fun c40 => ?_)
      · exact absurd c40 (by decide)
      · skip
        refine z_aload_n (q := 44) C 0 rfl rfl dX2_makeOfOne_43 rfl ?_
        refine z_iload_n (q := 45) C 2 rfl rfl dX2_makeOfOne_44 rfl ?_
        refine z_iconst (q := 46) C k_iconst_0 dX2_makeOfOne_45 rfl ?_
        refine z_iconst (q := 47) C k_iconst_1 dX2_makeOfOne_46 rfl ?_
        refine z_callV (q := 50) (n := 3) (As := [.int p, .int (nI 0), .int (nI 1)]) (rest := []) (wr := [(ht, .inr (4, [.ref ta, .int (nI nl)])), (ta, .inl (X.cI, 40, .inl tf))]) C (c_X2_make X.l X.D X.2.1 hr ht sp en rd 1 x y h a F n ov am S hR p (nI 0) (nI 1)) gX2_makeOfOne_X2_make rfl rfl rfl (by decide +kernel) (by decide) ⟨by first | decide | omega, by first | decide | omega⟩ 0 2 rfl rfl [0, 3, 4, 5, 6, 7, 8, 9, 10, 11, 12] [1, 2] rfl rfl (by decide) (by decide) (by decide) rfl rfl (Nat.le_of_ble_eq_true rfl) dX2_makeOfOne_47 rfl (fun v w1 hp => ?_)
        obtain ⟨F1, n1, o1, hR1, rfl, rfl⟩ := hp
        show zW X 4 [(ht, .inr (4, [.ref ta, .int (nI nl)])), (ta, .inl (X.cI, 40, .inl tf)), (hr, .inr (2, [.ref ht, .ref h, .int (nI sp), .int (nI en), .int rd, .int (nI 1), .int x, .int y])), (h, .inr (3, [.ref (a 0), .ref (a 1), .ref (a 2), .ref (a 3), .ref (a 4), .ref (a 5), .ref (a 6), .ref (a 7), .ref (a 8), .int (nI n1), .int (zb o1), .int am])), (a 0, .inl (X.cI, 600, .inl (F1 0))), (a 1, .inl (X.cI, 600, .inl (F1 1))), (a 2, .inl (X.cI, 600, .inl (F1 2))), (a 3, .inl (X.cI, 600, .inl (F1 3))), (a 4, .inl (X.cI, 600, .inl (F1 4))), (a 5, .inl (X.cI, 600, .inl (F1 5))), (a 6, .inl (X.cI, 600, .inl (F1 6))), (a 7, .inl (X.cI, 1024, .inl (F1 7))), (a 8, .inl (X.cZ, 600, .inl (F1 8)))] _ _ 50 _ []
        refine z_goto (tgt := 219) C dX2_makeOfOne_50 (by decide) ?_
        refine z_ws (ws' := [(hr, .inr (2, [.ref ht, .ref h, .int (nI sp), .int (nI en), .int rd, .int (nI 1), .int x, .int y])), (ht, .inr (4, [.ref ta, .int (nI nl)])), (ta, .inl (X.cI, 40, .inl tf)), (h, .inr (3, [.ref (a 0), .ref (a 1), .ref (a 2), .ref (a 3), .ref (a 4), .ref (a 5), .ref (a 6), .ref (a 7), .ref (a 8), .int (nI n1), .int (zb o1), .int am])), (a 0, .inl (X.cI, 600, .inl (F1 0))), (a 1, .inl (X.cI, 600, .inl (F1 1))), (a 2, .inl (X.cI, 600, .inl (F1 2))), (a 3, .inl (X.cI, 600, .inl (F1 3))), (a 4, .inl (X.cI, 600, .inl (F1 4))), (a 5, .inl (X.cI, 600, .inl (F1 5))), (a 6, .inl (X.cI, 600, .inl (F1 6))), (a 7, .inl (X.cI, 1024, .inl (F1 7))), (a 8, .inl (X.cZ, 600, .inl (F1 8)))]) [2, 0, 1, 3, 4, 5, 6, 7, 8, 9, 10, 11, 12] (by decide) rfl ?_
        refine z_vret C E (by omega) (by omega) dX2_makeOfOne_219 ?_
        refine ⟨F1, n1, o1, ?_, rfl, rfl⟩
        rw [show oneL nl tf 1 s p o = _ from rfl]
        exact hR1
    · exact absurd c4 (by decide)
  · skip
    refine z_aload_n (q := 1) C 0 rfl rfl dX2_makeOfOne_0 rfl ?_
    refine z_get (q := 4) (v := .int (nI 4)) C hiX2 0 5 rfl rfl (by decide) hf21 rfl dX2_makeOfOne_1 rfl ?_
    refine z_if_ne_n (q := 7) (tgt := 35) C (by omega) dX2_makeOfOne_4 (by decide) rfl (fun c4 => ?_) (fun c4 => ?_)
    · skip
      refine z_aload_n (q := 36) C 0 rfl rfl dX2_makeOfOne_35 rfl ?_
      refine z_get (q := 39) (v := .int (nI 4)) C hiX2 0 5 rfl rfl (by decide) hf21 rfl dX2_makeOfOne_36 rfl ?_
      refine z_iconst (q := 40) C k_iconst_1 dX2_makeOfOne_39 rfl ?_
      refine z_icmp_ne_n (q := 43) (tgt := 53) C (by omega) (by omega) dX2_makeOfOne_40 (by decide) rfl (fun c40 => ?_) (fun c40 => ?_)
      · skip
        refine z_aload_n (q := 54) C 0 rfl rfl dX2_makeOfOne_53 rfl ?_
        refine z_get (q := 57) (v := .int (nI 4)) C hiX2 0 5 rfl rfl (by decide) hf21 rfl dX2_makeOfOne_54 rfl ?_
        refine z_iconst (q := 58) C k_iconst_4 dX2_makeOfOne_57 rfl ?_
        refine z_icmp_ne_n (q := 61) (tgt := 78) C (by omega) (by omega) dX2_makeOfOne_58 (by decide) rfl (fun c58 => ?_) (fun c58 => ?_)
        · exact absurd c58 (by decide)
        · skip
          refine z_aload_n (q := 62) C 0 rfl rfl dX2_makeOfOne_61 rfl ?_
          refine z_iload_n (q := 63) C 1 rfl rfl dX2_makeOfOne_62 rfl ?_
          refine z_iconst (q := 64) C k_iconst_0 dX2_makeOfOne_63 rfl ?_
          refine z_iconst (q := 65) C k_iconst_2 dX2_makeOfOne_64 rfl ?_
          refine z_callV (q := 68) (n := 3) (As := [.int s, .int (nI 0), .int (nI 2)]) (rest := []) (wr := [(ht, .inr (4, [.ref ta, .int (nI nl)])), (ta, .inl (X.cI, 40, .inl tf))]) C (c_X2_make X.l X.D X.2.1 hr ht sp en rd 4 x y h a F n ov am S hR s (nI 0) (nI 2)) gX2_makeOfOne_X2_make rfl rfl rfl (by decide +kernel) (by decide) ⟨by first | decide | omega, by first | decide | omega⟩ 0 2 rfl rfl [0, 3, 4, 5, 6, 7, 8, 9, 10, 11, 12] [1, 2] rfl rfl (by decide) (by decide) (by decide) rfl rfl (Nat.le_of_ble_eq_true rfl) dX2_makeOfOne_65 rfl (fun v w1 hp => ?_)
          obtain ⟨F1, n1, o1, hR1, rfl, rfl⟩ := hp
          show zW X 4 [(ht, .inr (4, [.ref ta, .int (nI nl)])), (ta, .inl (X.cI, 40, .inl tf)), (hr, .inr (2, [.ref ht, .ref h, .int (nI sp), .int (nI en), .int rd, .int (nI 4), .int x, .int y])), (h, .inr (3, [.ref (a 0), .ref (a 1), .ref (a 2), .ref (a 3), .ref (a 4), .ref (a 5), .ref (a 6), .ref (a 7), .ref (a 8), .int (nI n1), .int (zb o1), .int am])), (a 0, .inl (X.cI, 600, .inl (F1 0))), (a 1, .inl (X.cI, 600, .inl (F1 1))), (a 2, .inl (X.cI, 600, .inl (F1 2))), (a 3, .inl (X.cI, 600, .inl (F1 3))), (a 4, .inl (X.cI, 600, .inl (F1 4))), (a 5, .inl (X.cI, 600, .inl (F1 5))), (a 6, .inl (X.cI, 600, .inl (F1 6))), (a 7, .inl (X.cI, 1024, .inl (F1 7))), (a 8, .inl (X.cZ, 600, .inl (F1 8)))] _ _ 68 _ []
          refine z_aload_n (q := 69) C 0 rfl rfl dX2_makeOfOne_68 rfl ?_
          refine z_iload_n (q := 70) C 3 rfl rfl dX2_makeOfOne_69 rfl ?_
          refine z_iconst (q := 71) C k_iconst_0 dX2_makeOfOne_70 rfl ?_
          refine z_iconst (q := 72) C k_iconst_2 dX2_makeOfOne_71 rfl ?_
          refine z_callV (q := 75) (n := 3) (As := [.int o, .int (nI 0), .int (nI 2)]) (rest := []) (wr := [(ht, .inr (4, [.ref ta, .int (nI nl)])), (ta, .inl (X.cI, 40, .inl tf))]) C (c_X2_make X.l X.D X.2.1 hr ht sp en rd 4 x y h a F1 n1 o1 am (addR S (mkRow s (nI 0) (nI 2) (nI 4) x y rd)) hR1 o (nI 0) (nI 2)) gX2_makeOfOne_X2_make rfl rfl rfl (by decide +kernel) (by decide) ⟨by first | decide | omega, by first | decide | omega⟩ 0 2 rfl rfl [2, 3, 4, 5, 6, 7, 8, 9, 10, 11, 12] [0, 1] rfl rfl (by decide) (by decide) (by decide) rfl rfl (Nat.le_of_ble_eq_true rfl) dX2_makeOfOne_72 rfl (fun v w1 hp => ?_)
          obtain ⟨F2, n2, o2, hR2, rfl, rfl⟩ := hp
          show zW X 4 [(ht, .inr (4, [.ref ta, .int (nI nl)])), (ta, .inl (X.cI, 40, .inl tf)), (hr, .inr (2, [.ref ht, .ref h, .int (nI sp), .int (nI en), .int rd, .int (nI 4), .int x, .int y])), (h, .inr (3, [.ref (a 0), .ref (a 1), .ref (a 2), .ref (a 3), .ref (a 4), .ref (a 5), .ref (a 6), .ref (a 7), .ref (a 8), .int (nI n2), .int (zb o2), .int am])), (a 0, .inl (X.cI, 600, .inl (F2 0))), (a 1, .inl (X.cI, 600, .inl (F2 1))), (a 2, .inl (X.cI, 600, .inl (F2 2))), (a 3, .inl (X.cI, 600, .inl (F2 3))), (a 4, .inl (X.cI, 600, .inl (F2 4))), (a 5, .inl (X.cI, 600, .inl (F2 5))), (a 6, .inl (X.cI, 600, .inl (F2 6))), (a 7, .inl (X.cI, 1024, .inl (F2 7))), (a 8, .inl (X.cZ, 600, .inl (F2 8)))] _ _ 75 _ []
          refine z_goto (tgt := 219) C dX2_makeOfOne_75 (by decide) ?_
          refine z_ws (ws' := [(hr, .inr (2, [.ref ht, .ref h, .int (nI sp), .int (nI en), .int rd, .int (nI 4), .int x, .int y])), (ht, .inr (4, [.ref ta, .int (nI nl)])), (ta, .inl (X.cI, 40, .inl tf)), (h, .inr (3, [.ref (a 0), .ref (a 1), .ref (a 2), .ref (a 3), .ref (a 4), .ref (a 5), .ref (a 6), .ref (a 7), .ref (a 8), .int (nI n2), .int (zb o2), .int am])), (a 0, .inl (X.cI, 600, .inl (F2 0))), (a 1, .inl (X.cI, 600, .inl (F2 1))), (a 2, .inl (X.cI, 600, .inl (F2 2))), (a 3, .inl (X.cI, 600, .inl (F2 3))), (a 4, .inl (X.cI, 600, .inl (F2 4))), (a 5, .inl (X.cI, 600, .inl (F2 5))), (a 6, .inl (X.cI, 600, .inl (F2 6))), (a 7, .inl (X.cI, 1024, .inl (F2 7))), (a 8, .inl (X.cZ, 600, .inl (F2 8)))]) [2, 0, 1, 3, 4, 5, 6, 7, 8, 9, 10, 11, 12] (by decide) rfl ?_
          refine z_vret C E (by omega) (by omega) dX2_makeOfOne_219 ?_
          refine ⟨F2, n2, o2, ?_, rfl, rfl⟩
          rw [show oneL nl tf 4 s p o = _ from rfl]
          exact hR2
      · exact absurd c40 (by decide)
    · exact absurd c4 (by decide)
  · skip
    refine z_aload_n (q := 1) C 0 rfl rfl dX2_makeOfOne_0 rfl ?_
    refine z_get (q := 4) (v := .int (nI 6)) C hiX2 0 5 rfl rfl (by decide) hf21 rfl dX2_makeOfOne_1 rfl ?_
    refine z_if_ne_n (q := 7) (tgt := 35) C (by omega) dX2_makeOfOne_4 (by decide) rfl (fun c4 => ?_) (fun c4 => ?_)
    · skip
      refine z_aload_n (q := 36) C 0 rfl rfl dX2_makeOfOne_35 rfl ?_
      refine z_get (q := 39) (v := .int (nI 6)) C hiX2 0 5 rfl rfl (by decide) hf21 rfl dX2_makeOfOne_36 rfl ?_
      refine z_iconst (q := 40) C k_iconst_1 dX2_makeOfOne_39 rfl ?_
      refine z_icmp_ne_n (q := 43) (tgt := 53) C (by omega) (by omega) dX2_makeOfOne_40 (by decide) rfl (fun c40 => ?_) (fun c40 => ?_)
      · skip
        refine z_aload_n (q := 54) C 0 rfl rfl dX2_makeOfOne_53 rfl ?_
        refine z_get (q := 57) (v := .int (nI 6)) C hiX2 0 5 rfl rfl (by decide) hf21 rfl dX2_makeOfOne_54 rfl ?_
        refine z_iconst (q := 58) C k_iconst_4 dX2_makeOfOne_57 rfl ?_
        refine z_icmp_ne_n (q := 61) (tgt := 78) C (by omega) (by omega) dX2_makeOfOne_58 (by decide) rfl (fun c58 => ?_) (fun c58 => ?_)
        · skip
          refine z_aload_n (q := 79) C 0 rfl rfl dX2_makeOfOne_78 rfl ?_
          refine z_get (q := 82) (v := .int (nI 6)) C hiX2 0 5 rfl rfl (by decide) hf21 rfl dX2_makeOfOne_79 rfl ?_
          refine z_bipush (q := 84) C k_bipush_6 dX2_makeOfOne_82 rfl ?_
          refine z_icmp_ne_n (q := 87) (tgt := 106) C (by omega) (by omega) dX2_makeOfOne_84 (by decide) rfl (fun c84 => ?_) (fun c84 => ?_)
          · exact absurd c84 (by decide)
          · skip
            refine z_iload_n (q := 88) C 2 rfl rfl dX2_makeOfOne_87 rfl ?_
            refine z_if_ne_z (q := 91) (tgt := 106) C dX2_makeOfOne_88 (by decide) rfl (fun c88 => ?_) (fun c88 => ?_)
            · skip
              refine z_aload_n (q := 107) C 0 rfl rfl dX2_makeOfOne_106 rfl ?_
              refine z_get (q := 110) (v := .int (nI 6)) C hiX2 0 5 rfl rfl (by decide) hf21 rfl dX2_makeOfOne_107 rfl ?_
              refine z_bipush (q := 112) C k_bipush_8 dX2_makeOfOne_110 rfl ?_
              refine z_icmp_ne_n (q := 115) (tgt := 134) C (by omega) (by omega) dX2_makeOfOne_112 (by decide) rfl (fun c112 => ?_) (fun c112 => ?_)
              · skip
                refine z_aload_n (q := 135) C 0 rfl rfl dX2_makeOfOne_134 rfl ?_
                refine z_get (q := 138) (v := .int (nI 6)) C hiX2 0 5 rfl rfl (by decide) hf21 rfl dX2_makeOfOne_135 rfl ?_
                refine z_bipush (q := 140) C k_bipush_10 dX2_makeOfOne_138 rfl ?_
                refine z_icmp_ne_n (q := 143) (tgt := 162) C (by omega) (by omega) dX2_makeOfOne_140 (by decide) rfl (fun c140 => ?_) (fun c140 => ?_)
                · skip
                  refine z_aload_n (q := 163) C 0 rfl rfl dX2_makeOfOne_162 rfl ?_
                  refine z_get (q := 166) (v := .int (nI 6)) C hiX2 0 5 rfl rfl (by decide) hf21 rfl dX2_makeOfOne_163 rfl ?_
                  refine z_bipush (q := 168) C k_bipush_12 dX2_makeOfOne_166 rfl ?_
                  refine z_icmp_ne_n (q := 171) (tgt := 192) C (by omega) (by omega) dX2_makeOfOne_168 (by decide) rfl (fun c168 => ?_) (fun c168 => ?_)
                  · skip
                    refine z_aload_n (q := 193) C 0 rfl rfl dX2_makeOfOne_192 rfl ?_
                    refine z_get (q := 196) (v := .int (nI 6)) C hiX2 0 5 rfl rfl (by decide) hf21 rfl dX2_makeOfOne_193 rfl ?_
                    refine z_bipush (q := 198) C k_bipush_13 dX2_makeOfOne_196 rfl ?_
                    refine z_icmp_ne_n (q := 201) (tgt := 219) C (by omega) (by omega) dX2_makeOfOne_198 (by decide) rfl (fun c198 => ?_) (fun c198 => ?_)
                    · skip
                      refine z_vret C E (by omega) (by omega) dX2_makeOfOne_219 ?_
                      refine ⟨F, n, ov, ?_, rfl, rfl⟩
                      rw [show oneL nl tf 6 s p o = _ from if_neg (fun z => c88 z.1)]
                      exact hR
                    · exact absurd c198 (by decide)
                  · exact absurd c168 (by decide)
                · exact absurd c140 (by decide)
              · exact absurd c112 (by decide)
            · skip
              refine z_iload_n (q := 92) C 3 rfl rfl dX2_makeOfOne_91 rfl ?_
              refine z_iconst (q := 93) C k_iconst_1 dX2_makeOfOne_92 rfl ?_
              refine z_icmp_ne (q := 96) (tgt := 106) C dX2_makeOfOne_93 (by decide) rfl (fun c93 => ?_) (fun c93 => ?_)
              · skip
                refine z_aload_n (q := 107) C 0 rfl rfl dX2_makeOfOne_106 rfl ?_
                refine z_get (q := 110) (v := .int (nI 6)) C hiX2 0 5 rfl rfl (by decide) hf21 rfl dX2_makeOfOne_107 rfl ?_
                refine z_bipush (q := 112) C k_bipush_8 dX2_makeOfOne_110 rfl ?_
                refine z_icmp_ne_n (q := 115) (tgt := 134) C (by omega) (by omega) dX2_makeOfOne_112 (by decide) rfl (fun c112 => ?_) (fun c112 => ?_)
                · skip
                  refine z_aload_n (q := 135) C 0 rfl rfl dX2_makeOfOne_134 rfl ?_
                  refine z_get (q := 138) (v := .int (nI 6)) C hiX2 0 5 rfl rfl (by decide) hf21 rfl dX2_makeOfOne_135 rfl ?_
                  refine z_bipush (q := 140) C k_bipush_10 dX2_makeOfOne_138 rfl ?_
                  refine z_icmp_ne_n (q := 143) (tgt := 162) C (by omega) (by omega) dX2_makeOfOne_140 (by decide) rfl (fun c140 => ?_) (fun c140 => ?_)
                  · skip
                    refine z_aload_n (q := 163) C 0 rfl rfl dX2_makeOfOne_162 rfl ?_
                    refine z_get (q := 166) (v := .int (nI 6)) C hiX2 0 5 rfl rfl (by decide) hf21 rfl dX2_makeOfOne_163 rfl ?_
                    refine z_bipush (q := 168) C k_bipush_12 dX2_makeOfOne_166 rfl ?_
                    refine z_icmp_ne_n (q := 171) (tgt := 192) C (by omega) (by omega) dX2_makeOfOne_168 (by decide) rfl (fun c168 => ?_) (fun c168 => ?_)
                    · skip
                      refine z_aload_n (q := 193) C 0 rfl rfl dX2_makeOfOne_192 rfl ?_
                      refine z_get (q := 196) (v := .int (nI 6)) C hiX2 0 5 rfl rfl (by decide) hf21 rfl dX2_makeOfOne_193 rfl ?_
                      refine z_bipush (q := 198) C k_bipush_13 dX2_makeOfOne_196 rfl ?_
                      refine z_icmp_ne_n (q := 201) (tgt := 219) C (by omega) (by omega) dX2_makeOfOne_198 (by decide) rfl (fun c198 => ?_) (fun c198 => ?_)
                      · skip
                        refine z_vret C E (by omega) (by omega) dX2_makeOfOne_219 ?_
                        refine ⟨F, n, ov, ?_, rfl, rfl⟩
                        rw [show oneL nl tf 6 s p o = _ from if_neg (fun z => c93 z.2)]
                        exact hR
                      · exact absurd c198 (by decide)
                    · exact absurd c168 (by decide)
                  · exact absurd c140 (by decide)
                · exact absurd c112 (by decide)
              · skip
                refine z_aload_n (q := 97) C 0 rfl rfl dX2_makeOfOne_96 rfl ?_
                refine z_iload_n (q := 98) C 1 rfl rfl dX2_makeOfOne_97 rfl ?_
                refine z_iconst (q := 99) C k_iconst_5 dX2_makeOfOne_98 rfl ?_
                refine z_iload_n (q := 100) C 1 rfl rfl dX2_makeOfOne_99 rfl ?_
                refine z_callV (q := 103) (n := 3) (As := [.int s, .int (nI 5), .int s]) (rest := []) (wr := [(ht, .inr (4, [.ref ta, .int (nI nl)])), (ta, .inl (X.cI, 40, .inl tf))]) C (c_X2_make X.l X.D X.2.1 hr ht sp en rd 6 x y h a F n ov am S hR s (nI 5) s) gX2_makeOfOne_X2_make rfl rfl rfl (by decide +kernel) (by decide) ⟨by first | decide | omega, by first | decide | omega⟩ 0 2 rfl rfl [0, 3, 4, 5, 6, 7, 8, 9, 10, 11, 12] [1, 2] rfl rfl (by decide) (by decide) (by decide) rfl rfl (Nat.le_of_ble_eq_true rfl) dX2_makeOfOne_100 rfl (fun v w1 hp => ?_)
                obtain ⟨F1, n1, o1, hR1, rfl, rfl⟩ := hp
                show zW X 4 [(ht, .inr (4, [.ref ta, .int (nI nl)])), (ta, .inl (X.cI, 40, .inl tf)), (hr, .inr (2, [.ref ht, .ref h, .int (nI sp), .int (nI en), .int rd, .int (nI 6), .int x, .int y])), (h, .inr (3, [.ref (a 0), .ref (a 1), .ref (a 2), .ref (a 3), .ref (a 4), .ref (a 5), .ref (a 6), .ref (a 7), .ref (a 8), .int (nI n1), .int (zb o1), .int am])), (a 0, .inl (X.cI, 600, .inl (F1 0))), (a 1, .inl (X.cI, 600, .inl (F1 1))), (a 2, .inl (X.cI, 600, .inl (F1 2))), (a 3, .inl (X.cI, 600, .inl (F1 3))), (a 4, .inl (X.cI, 600, .inl (F1 4))), (a 5, .inl (X.cI, 600, .inl (F1 5))), (a 6, .inl (X.cI, 600, .inl (F1 6))), (a 7, .inl (X.cI, 1024, .inl (F1 7))), (a 8, .inl (X.cZ, 600, .inl (F1 8)))] _ _ 103 _ []
                refine z_goto (tgt := 219) C dX2_makeOfOne_103 (by decide) ?_
                refine z_ws (ws' := [(hr, .inr (2, [.ref ht, .ref h, .int (nI sp), .int (nI en), .int rd, .int (nI 6), .int x, .int y])), (ht, .inr (4, [.ref ta, .int (nI nl)])), (ta, .inl (X.cI, 40, .inl tf)), (h, .inr (3, [.ref (a 0), .ref (a 1), .ref (a 2), .ref (a 3), .ref (a 4), .ref (a 5), .ref (a 6), .ref (a 7), .ref (a 8), .int (nI n1), .int (zb o1), .int am])), (a 0, .inl (X.cI, 600, .inl (F1 0))), (a 1, .inl (X.cI, 600, .inl (F1 1))), (a 2, .inl (X.cI, 600, .inl (F1 2))), (a 3, .inl (X.cI, 600, .inl (F1 3))), (a 4, .inl (X.cI, 600, .inl (F1 4))), (a 5, .inl (X.cI, 600, .inl (F1 5))), (a 6, .inl (X.cI, 600, .inl (F1 6))), (a 7, .inl (X.cI, 1024, .inl (F1 7))), (a 8, .inl (X.cZ, 600, .inl (F1 8)))]) [2, 0, 1, 3, 4, 5, 6, 7, 8, 9, 10, 11, 12] (by decide) rfl ?_
                refine z_vret C E (by omega) (by omega) dX2_makeOfOne_219 ?_
                refine ⟨F1, n1, o1, ?_, rfl, rfl⟩
                rw [show oneL nl tf 6 s p o = _ from if_pos ⟨c88, c93⟩]
                exact hR1
        · exact absurd c58 (by decide)
      · exact absurd c40 (by decide)
    · exact absurd c4 (by decide)
  · skip
    refine z_aload_n (q := 1) C 0 rfl rfl dX2_makeOfOne_0 rfl ?_
    refine z_get (q := 4) (v := .int (nI 8)) C hiX2 0 5 rfl rfl (by decide) hf21 rfl dX2_makeOfOne_1 rfl ?_
    refine z_if_ne_n (q := 7) (tgt := 35) C (by omega) dX2_makeOfOne_4 (by decide) rfl (fun c4 => ?_) (fun c4 => ?_)
    · skip
      refine z_aload_n (q := 36) C 0 rfl rfl dX2_makeOfOne_35 rfl ?_
      refine z_get (q := 39) (v := .int (nI 8)) C hiX2 0 5 rfl rfl (by decide) hf21 rfl dX2_makeOfOne_36 rfl ?_
      refine z_iconst (q := 40) C k_iconst_1 dX2_makeOfOne_39 rfl ?_
      refine z_icmp_ne_n (q := 43) (tgt := 53) C (by omega) (by omega) dX2_makeOfOne_40 (by decide) rfl (fun c40 => ?_) (fun c40 => ?_)
      · skip
        refine z_aload_n (q := 54) C 0 rfl rfl dX2_makeOfOne_53 rfl ?_
        refine z_get (q := 57) (v := .int (nI 8)) C hiX2 0 5 rfl rfl (by decide) hf21 rfl dX2_makeOfOne_54 rfl ?_
        refine z_iconst (q := 58) C k_iconst_4 dX2_makeOfOne_57 rfl ?_
        refine z_icmp_ne_n (q := 61) (tgt := 78) C (by omega) (by omega) dX2_makeOfOne_58 (by decide) rfl (fun c58 => ?_) (fun c58 => ?_)
        · skip
          refine z_aload_n (q := 79) C 0 rfl rfl dX2_makeOfOne_78 rfl ?_
          refine z_get (q := 82) (v := .int (nI 8)) C hiX2 0 5 rfl rfl (by decide) hf21 rfl dX2_makeOfOne_79 rfl ?_
          refine z_bipush (q := 84) C k_bipush_6 dX2_makeOfOne_82 rfl ?_
          refine z_icmp_ne_n (q := 87) (tgt := 106) C (by omega) (by omega) dX2_makeOfOne_84 (by decide) rfl (fun c84 => ?_) (fun c84 => ?_)
          · skip
            refine z_aload_n (q := 107) C 0 rfl rfl dX2_makeOfOne_106 rfl ?_
            refine z_get (q := 110) (v := .int (nI 8)) C hiX2 0 5 rfl rfl (by decide) hf21 rfl dX2_makeOfOne_107 rfl ?_
            refine z_bipush (q := 112) C k_bipush_8 dX2_makeOfOne_110 rfl ?_
            refine z_icmp_ne_n (q := 115) (tgt := 134) C (by omega) (by omega) dX2_makeOfOne_112 (by decide) rfl (fun c112 => ?_) (fun c112 => ?_)
            · exact absurd c112 (by decide)
            · skip
              refine z_iload_n (q := 116) C 2 rfl rfl dX2_makeOfOne_115 rfl ?_
              refine z_if_ne_z (q := 119) (tgt := 134) C dX2_makeOfOne_116 (by decide) rfl (fun c116 => ?_) (fun c116 => ?_)
              · skip
                refine z_aload_n (q := 135) C 0 rfl rfl dX2_makeOfOne_134 rfl ?_
                refine z_get (q := 138) (v := .int (nI 8)) C hiX2 0 5 rfl rfl (by decide) hf21 rfl dX2_makeOfOne_135 rfl ?_
                refine z_bipush (q := 140) C k_bipush_10 dX2_makeOfOne_138 rfl ?_
                refine z_icmp_ne_n (q := 143) (tgt := 162) C (by omega) (by omega) dX2_makeOfOne_140 (by decide) rfl (fun c140 => ?_) (fun c140 => ?_)
                · skip
                  refine z_aload_n (q := 163) C 0 rfl rfl dX2_makeOfOne_162 rfl ?_
                  refine z_get (q := 166) (v := .int (nI 8)) C hiX2 0 5 rfl rfl (by decide) hf21 rfl dX2_makeOfOne_163 rfl ?_
                  refine z_bipush (q := 168) C k_bipush_12 dX2_makeOfOne_166 rfl ?_
                  refine z_icmp_ne_n (q := 171) (tgt := 192) C (by omega) (by omega) dX2_makeOfOne_168 (by decide) rfl (fun c168 => ?_) (fun c168 => ?_)
                  · skip
                    refine z_aload_n (q := 193) C 0 rfl rfl dX2_makeOfOne_192 rfl ?_
                    refine z_get (q := 196) (v := .int (nI 8)) C hiX2 0 5 rfl rfl (by decide) hf21 rfl dX2_makeOfOne_193 rfl ?_
                    refine z_bipush (q := 198) C k_bipush_13 dX2_makeOfOne_196 rfl ?_
                    refine z_icmp_ne_n (q := 201) (tgt := 219) C (by omega) (by omega) dX2_makeOfOne_198 (by decide) rfl (fun c198 => ?_) (fun c198 => ?_)
                    · skip
                      refine z_vret C E (by omega) (by omega) dX2_makeOfOne_219 ?_
                      refine ⟨F, n, ov, ?_, rfl, rfl⟩
                      rw [show oneL nl tf 8 s p o = _ from if_neg (fun z => c116 z.1)]
                      exact hR
                    · exact absurd c198 (by decide)
                  · exact absurd c168 (by decide)
                · exact absurd c140 (by decide)
              · skip
                refine z_iload_n (q := 120) C 3 rfl rfl dX2_makeOfOne_119 rfl ?_
                refine z_iconst (q := 121) C k_iconst_3 dX2_makeOfOne_120 rfl ?_
                refine z_icmp_ne (q := 124) (tgt := 134) C dX2_makeOfOne_121 (by decide) rfl (fun c121 => ?_) (fun c121 => ?_)
                · skip
                  refine z_aload_n (q := 135) C 0 rfl rfl dX2_makeOfOne_134 rfl ?_
                  refine z_get (q := 138) (v := .int (nI 8)) C hiX2 0 5 rfl rfl (by decide) hf21 rfl dX2_makeOfOne_135 rfl ?_
                  refine z_bipush (q := 140) C k_bipush_10 dX2_makeOfOne_138 rfl ?_
                  refine z_icmp_ne_n (q := 143) (tgt := 162) C (by omega) (by omega) dX2_makeOfOne_140 (by decide) rfl (fun c140 => ?_) (fun c140 => ?_)
                  · skip
                    refine z_aload_n (q := 163) C 0 rfl rfl dX2_makeOfOne_162 rfl ?_
                    refine z_get (q := 166) (v := .int (nI 8)) C hiX2 0 5 rfl rfl (by decide) hf21 rfl dX2_makeOfOne_163 rfl ?_
                    refine z_bipush (q := 168) C k_bipush_12 dX2_makeOfOne_166 rfl ?_
                    refine z_icmp_ne_n (q := 171) (tgt := 192) C (by omega) (by omega) dX2_makeOfOne_168 (by decide) rfl (fun c168 => ?_) (fun c168 => ?_)
                    · skip
                      refine z_aload_n (q := 193) C 0 rfl rfl dX2_makeOfOne_192 rfl ?_
                      refine z_get (q := 196) (v := .int (nI 8)) C hiX2 0 5 rfl rfl (by decide) hf21 rfl dX2_makeOfOne_193 rfl ?_
                      refine z_bipush (q := 198) C k_bipush_13 dX2_makeOfOne_196 rfl ?_
                      refine z_icmp_ne_n (q := 201) (tgt := 219) C (by omega) (by omega) dX2_makeOfOne_198 (by decide) rfl (fun c198 => ?_) (fun c198 => ?_)
                      · skip
                        refine z_vret C E (by omega) (by omega) dX2_makeOfOne_219 ?_
                        refine ⟨F, n, ov, ?_, rfl, rfl⟩
                        rw [show oneL nl tf 8 s p o = _ from if_neg (fun z => c121 z.2)]
                        exact hR
                      · exact absurd c198 (by decide)
                    · exact absurd c168 (by decide)
                  · exact absurd c140 (by decide)
                · skip
                  refine z_aload_n (q := 125) C 0 rfl rfl dX2_makeOfOne_124 rfl ?_
                  refine z_iload_n (q := 126) C 1 rfl rfl dX2_makeOfOne_125 rfl ?_
                  refine z_iconst (q := 127) C k_iconst_4 dX2_makeOfOne_126 rfl ?_
                  refine z_iconst (q := 128) C k_iconst_2 dX2_makeOfOne_127 rfl ?_
                  refine z_callV (q := 131) (n := 3) (As := [.int s, .int (nI 4), .int (nI 2)]) (rest := []) (wr := [(ht, .inr (4, [.ref ta, .int (nI nl)])), (ta, .inl (X.cI, 40, .inl tf))]) C (c_X2_make X.l X.D X.2.1 hr ht sp en rd 8 x y h a F n ov am S hR s (nI 4) (nI 2)) gX2_makeOfOne_X2_make rfl rfl rfl (by decide +kernel) (by decide) ⟨by first | decide | omega, by first | decide | omega⟩ 0 2 rfl rfl [0, 3, 4, 5, 6, 7, 8, 9, 10, 11, 12] [1, 2] rfl rfl (by decide) (by decide) (by decide) rfl rfl (Nat.le_of_ble_eq_true rfl) dX2_makeOfOne_128 rfl (fun v w1 hp => ?_)
                  obtain ⟨F1, n1, o1, hR1, rfl, rfl⟩ := hp
                  show zW X 4 [(ht, .inr (4, [.ref ta, .int (nI nl)])), (ta, .inl (X.cI, 40, .inl tf)), (hr, .inr (2, [.ref ht, .ref h, .int (nI sp), .int (nI en), .int rd, .int (nI 8), .int x, .int y])), (h, .inr (3, [.ref (a 0), .ref (a 1), .ref (a 2), .ref (a 3), .ref (a 4), .ref (a 5), .ref (a 6), .ref (a 7), .ref (a 8), .int (nI n1), .int (zb o1), .int am])), (a 0, .inl (X.cI, 600, .inl (F1 0))), (a 1, .inl (X.cI, 600, .inl (F1 1))), (a 2, .inl (X.cI, 600, .inl (F1 2))), (a 3, .inl (X.cI, 600, .inl (F1 3))), (a 4, .inl (X.cI, 600, .inl (F1 4))), (a 5, .inl (X.cI, 600, .inl (F1 5))), (a 6, .inl (X.cI, 600, .inl (F1 6))), (a 7, .inl (X.cI, 1024, .inl (F1 7))), (a 8, .inl (X.cZ, 600, .inl (F1 8)))] _ _ 131 _ []
                  refine z_goto (tgt := 219) C dX2_makeOfOne_131 (by decide) ?_
                  refine z_ws (ws' := [(hr, .inr (2, [.ref ht, .ref h, .int (nI sp), .int (nI en), .int rd, .int (nI 8), .int x, .int y])), (ht, .inr (4, [.ref ta, .int (nI nl)])), (ta, .inl (X.cI, 40, .inl tf)), (h, .inr (3, [.ref (a 0), .ref (a 1), .ref (a 2), .ref (a 3), .ref (a 4), .ref (a 5), .ref (a 6), .ref (a 7), .ref (a 8), .int (nI n1), .int (zb o1), .int am])), (a 0, .inl (X.cI, 600, .inl (F1 0))), (a 1, .inl (X.cI, 600, .inl (F1 1))), (a 2, .inl (X.cI, 600, .inl (F1 2))), (a 3, .inl (X.cI, 600, .inl (F1 3))), (a 4, .inl (X.cI, 600, .inl (F1 4))), (a 5, .inl (X.cI, 600, .inl (F1 5))), (a 6, .inl (X.cI, 600, .inl (F1 6))), (a 7, .inl (X.cI, 1024, .inl (F1 7))), (a 8, .inl (X.cZ, 600, .inl (F1 8)))]) [2, 0, 1, 3, 4, 5, 6, 7, 8, 9, 10, 11, 12] (by decide) rfl ?_
                  refine z_vret C E (by omega) (by omega) dX2_makeOfOne_219 ?_
                  refine ⟨F1, n1, o1, ?_, rfl, rfl⟩
                  rw [show oneL nl tf 8 s p o = _ from if_pos ⟨c116, c121⟩]
                  exact hR1
          · exact absurd c84 (by decide)
        · exact absurd c58 (by decide)
      · exact absurd c40 (by decide)
    · exact absurd c4 (by decide)
  · skip
    refine z_aload_n (q := 1) C 0 rfl rfl dX2_makeOfOne_0 rfl ?_
    refine z_get (q := 4) (v := .int (nI 10)) C hiX2 0 5 rfl rfl (by decide) hf21 rfl dX2_makeOfOne_1 rfl ?_
    refine z_if_ne_n (q := 7) (tgt := 35) C (by omega) dX2_makeOfOne_4 (by decide) rfl (fun c4 => ?_) (fun c4 => ?_)
    · skip
      refine z_aload_n (q := 36) C 0 rfl rfl dX2_makeOfOne_35 rfl ?_
      refine z_get (q := 39) (v := .int (nI 10)) C hiX2 0 5 rfl rfl (by decide) hf21 rfl dX2_makeOfOne_36 rfl ?_
      refine z_iconst (q := 40) C k_iconst_1 dX2_makeOfOne_39 rfl ?_
      refine z_icmp_ne_n (q := 43) (tgt := 53) C (by omega) (by omega) dX2_makeOfOne_40 (by decide) rfl (fun c40 => ?_) (fun c40 => ?_)
      · skip
        refine z_aload_n (q := 54) C 0 rfl rfl dX2_makeOfOne_53 rfl ?_
        refine z_get (q := 57) (v := .int (nI 10)) C hiX2 0 5 rfl rfl (by decide) hf21 rfl dX2_makeOfOne_54 rfl ?_
        refine z_iconst (q := 58) C k_iconst_4 dX2_makeOfOne_57 rfl ?_
        refine z_icmp_ne_n (q := 61) (tgt := 78) C (by omega) (by omega) dX2_makeOfOne_58 (by decide) rfl (fun c58 => ?_) (fun c58 => ?_)
        · skip
          refine z_aload_n (q := 79) C 0 rfl rfl dX2_makeOfOne_78 rfl ?_
          refine z_get (q := 82) (v := .int (nI 10)) C hiX2 0 5 rfl rfl (by decide) hf21 rfl dX2_makeOfOne_79 rfl ?_
          refine z_bipush (q := 84) C k_bipush_6 dX2_makeOfOne_82 rfl ?_
          refine z_icmp_ne_n (q := 87) (tgt := 106) C (by omega) (by omega) dX2_makeOfOne_84 (by decide) rfl (fun c84 => ?_) (fun c84 => ?_)
          · skip
            refine z_aload_n (q := 107) C 0 rfl rfl dX2_makeOfOne_106 rfl ?_
            refine z_get (q := 110) (v := .int (nI 10)) C hiX2 0 5 rfl rfl (by decide) hf21 rfl dX2_makeOfOne_107 rfl ?_
            refine z_bipush (q := 112) C k_bipush_8 dX2_makeOfOne_110 rfl ?_
            refine z_icmp_ne_n (q := 115) (tgt := 134) C (by omega) (by omega) dX2_makeOfOne_112 (by decide) rfl (fun c112 => ?_) (fun c112 => ?_)
            · skip
              refine z_aload_n (q := 135) C 0 rfl rfl dX2_makeOfOne_134 rfl ?_
              refine z_get (q := 138) (v := .int (nI 10)) C hiX2 0 5 rfl rfl (by decide) hf21 rfl dX2_makeOfOne_135 rfl ?_
              refine z_bipush (q := 140) C k_bipush_10 dX2_makeOfOne_138 rfl ?_
              refine z_icmp_ne_n (q := 143) (tgt := 162) C (by omega) (by omega) dX2_makeOfOne_140 (by decide) rfl (fun c140 => ?_) (fun c140 => ?_)
              · exact absurd c140 (by decide)
              · skip
                refine z_iload_n (q := 144) C 2 rfl rfl dX2_makeOfOne_143 rfl ?_
                refine z_if_ne_z (q := 147) (tgt := 162) C dX2_makeOfOne_144 (by decide) rfl (fun c144 => ?_) (fun c144 => ?_)
                · skip
                  refine z_aload_n (q := 163) C 0 rfl rfl dX2_makeOfOne_162 rfl ?_
                  refine z_get (q := 166) (v := .int (nI 10)) C hiX2 0 5 rfl rfl (by decide) hf21 rfl dX2_makeOfOne_163 rfl ?_
                  refine z_bipush (q := 168) C k_bipush_12 dX2_makeOfOne_166 rfl ?_
                  refine z_icmp_ne_n (q := 171) (tgt := 192) C (by omega) (by omega) dX2_makeOfOne_168 (by decide) rfl (fun c168 => ?_) (fun c168 => ?_)
                  · skip
                    refine z_aload_n (q := 193) C 0 rfl rfl dX2_makeOfOne_192 rfl ?_
                    refine z_get (q := 196) (v := .int (nI 10)) C hiX2 0 5 rfl rfl (by decide) hf21 rfl dX2_makeOfOne_193 rfl ?_
                    refine z_bipush (q := 198) C k_bipush_13 dX2_makeOfOne_196 rfl ?_
                    refine z_icmp_ne_n (q := 201) (tgt := 219) C (by omega) (by omega) dX2_makeOfOne_198 (by decide) rfl (fun c198 => ?_) (fun c198 => ?_)
                    · skip
                      refine z_vret C E (by omega) (by omega) dX2_makeOfOne_219 ?_
                      refine ⟨F, n, ov, ?_, rfl, rfl⟩
                      rw [show oneL nl tf 10 s p o = _ from if_neg (fun z => c144 z.1)]
                      exact hR
                    · exact absurd c198 (by decide)
                  · exact absurd c168 (by decide)
                · skip
                  refine z_iload_n (q := 148) C 3 rfl rfl dX2_makeOfOne_147 rfl ?_
                  refine z_iconst (q := 149) C k_iconst_3 dX2_makeOfOne_148 rfl ?_
                  refine z_icmp_ne (q := 152) (tgt := 162) C dX2_makeOfOne_149 (by decide) rfl (fun c149 => ?_) (fun c149 => ?_)
                  · skip
                    refine z_aload_n (q := 163) C 0 rfl rfl dX2_makeOfOne_162 rfl ?_
                    refine z_get (q := 166) (v := .int (nI 10)) C hiX2 0 5 rfl rfl (by decide) hf21 rfl dX2_makeOfOne_163 rfl ?_
                    refine z_bipush (q := 168) C k_bipush_12 dX2_makeOfOne_166 rfl ?_
                    refine z_icmp_ne_n (q := 171) (tgt := 192) C (by omega) (by omega) dX2_makeOfOne_168 (by decide) rfl (fun c168 => ?_) (fun c168 => ?_)
                    · skip
                      refine z_aload_n (q := 193) C 0 rfl rfl dX2_makeOfOne_192 rfl ?_
                      refine z_get (q := 196) (v := .int (nI 10)) C hiX2 0 5 rfl rfl (by decide) hf21 rfl dX2_makeOfOne_193 rfl ?_
                      refine z_bipush (q := 198) C k_bipush_13 dX2_makeOfOne_196 rfl ?_
                      refine z_icmp_ne_n (q := 201) (tgt := 219) C (by omega) (by omega) dX2_makeOfOne_198 (by decide) rfl (fun c198 => ?_) (fun c198 => ?_)
                      · skip
                        refine z_vret C E (by omega) (by omega) dX2_makeOfOne_219 ?_
                        refine ⟨F, n, ov, ?_, rfl, rfl⟩
                        rw [show oneL nl tf 10 s p o = _ from if_neg (fun z => c149 z.2)]
                        exact hR
                      · exact absurd c198 (by decide)
                    · exact absurd c168 (by decide)
                  · skip
                    refine z_aload_n (q := 153) C 0 rfl rfl dX2_makeOfOne_152 rfl ?_
                    refine z_iload_n (q := 154) C 1 rfl rfl dX2_makeOfOne_153 rfl ?_
                    refine z_iconst (q := 155) C k_iconst_4 dX2_makeOfOne_154 rfl ?_
                    refine z_iload_n (q := 156) C 1 rfl rfl dX2_makeOfOne_155 rfl ?_
                    refine z_callV (q := 159) (n := 3) (As := [.int s, .int (nI 4), .int s]) (rest := []) (wr := [(ht, .inr (4, [.ref ta, .int (nI nl)])), (ta, .inl (X.cI, 40, .inl tf))]) C (c_X2_make X.l X.D X.2.1 hr ht sp en rd 10 x y h a F n ov am S hR s (nI 4) s) gX2_makeOfOne_X2_make rfl rfl rfl (by decide +kernel) (by decide) ⟨by first | decide | omega, by first | decide | omega⟩ 0 2 rfl rfl [0, 3, 4, 5, 6, 7, 8, 9, 10, 11, 12] [1, 2] rfl rfl (by decide) (by decide) (by decide) rfl rfl (Nat.le_of_ble_eq_true rfl) dX2_makeOfOne_156 rfl (fun v w1 hp => ?_)
                    obtain ⟨F1, n1, o1, hR1, rfl, rfl⟩ := hp
                    show zW X 4 [(ht, .inr (4, [.ref ta, .int (nI nl)])), (ta, .inl (X.cI, 40, .inl tf)), (hr, .inr (2, [.ref ht, .ref h, .int (nI sp), .int (nI en), .int rd, .int (nI 10), .int x, .int y])), (h, .inr (3, [.ref (a 0), .ref (a 1), .ref (a 2), .ref (a 3), .ref (a 4), .ref (a 5), .ref (a 6), .ref (a 7), .ref (a 8), .int (nI n1), .int (zb o1), .int am])), (a 0, .inl (X.cI, 600, .inl (F1 0))), (a 1, .inl (X.cI, 600, .inl (F1 1))), (a 2, .inl (X.cI, 600, .inl (F1 2))), (a 3, .inl (X.cI, 600, .inl (F1 3))), (a 4, .inl (X.cI, 600, .inl (F1 4))), (a 5, .inl (X.cI, 600, .inl (F1 5))), (a 6, .inl (X.cI, 600, .inl (F1 6))), (a 7, .inl (X.cI, 1024, .inl (F1 7))), (a 8, .inl (X.cZ, 600, .inl (F1 8)))] _ _ 159 _ []
                    refine z_goto (tgt := 219) C dX2_makeOfOne_159 (by decide) ?_
                    refine z_ws (ws' := [(hr, .inr (2, [.ref ht, .ref h, .int (nI sp), .int (nI en), .int rd, .int (nI 10), .int x, .int y])), (ht, .inr (4, [.ref ta, .int (nI nl)])), (ta, .inl (X.cI, 40, .inl tf)), (h, .inr (3, [.ref (a 0), .ref (a 1), .ref (a 2), .ref (a 3), .ref (a 4), .ref (a 5), .ref (a 6), .ref (a 7), .ref (a 8), .int (nI n1), .int (zb o1), .int am])), (a 0, .inl (X.cI, 600, .inl (F1 0))), (a 1, .inl (X.cI, 600, .inl (F1 1))), (a 2, .inl (X.cI, 600, .inl (F1 2))), (a 3, .inl (X.cI, 600, .inl (F1 3))), (a 4, .inl (X.cI, 600, .inl (F1 4))), (a 5, .inl (X.cI, 600, .inl (F1 5))), (a 6, .inl (X.cI, 600, .inl (F1 6))), (a 7, .inl (X.cI, 1024, .inl (F1 7))), (a 8, .inl (X.cZ, 600, .inl (F1 8)))]) [2, 0, 1, 3, 4, 5, 6, 7, 8, 9, 10, 11, 12] (by decide) rfl ?_
                    refine z_vret C E (by omega) (by omega) dX2_makeOfOne_219 ?_
                    refine ⟨F1, n1, o1, ?_, rfl, rfl⟩
                    rw [show oneL nl tf 10 s p o = _ from if_pos ⟨c144, c149⟩]
                    exact hR1
            · exact absurd c112 (by decide)
          · exact absurd c84 (by decide)
        · exact absurd c58 (by decide)
      · exact absurd c40 (by decide)
    · exact absurd c4 (by decide)
  · skip
    refine z_aload_n (q := 1) C 0 rfl rfl dX2_makeOfOne_0 rfl ?_
    refine z_get (q := 4) (v := .int (nI 12)) C hiX2 0 5 rfl rfl (by decide) hf21 rfl dX2_makeOfOne_1 rfl ?_
    refine z_if_ne_n (q := 7) (tgt := 35) C (by omega) dX2_makeOfOne_4 (by decide) rfl (fun c4 => ?_) (fun c4 => ?_)
    · skip
      refine z_aload_n (q := 36) C 0 rfl rfl dX2_makeOfOne_35 rfl ?_
      refine z_get (q := 39) (v := .int (nI 12)) C hiX2 0 5 rfl rfl (by decide) hf21 rfl dX2_makeOfOne_36 rfl ?_
      refine z_iconst (q := 40) C k_iconst_1 dX2_makeOfOne_39 rfl ?_
      refine z_icmp_ne_n (q := 43) (tgt := 53) C (by omega) (by omega) dX2_makeOfOne_40 (by decide) rfl (fun c40 => ?_) (fun c40 => ?_)
      · skip
        refine z_aload_n (q := 54) C 0 rfl rfl dX2_makeOfOne_53 rfl ?_
        refine z_get (q := 57) (v := .int (nI 12)) C hiX2 0 5 rfl rfl (by decide) hf21 rfl dX2_makeOfOne_54 rfl ?_
        refine z_iconst (q := 58) C k_iconst_4 dX2_makeOfOne_57 rfl ?_
        refine z_icmp_ne_n (q := 61) (tgt := 78) C (by omega) (by omega) dX2_makeOfOne_58 (by decide) rfl (fun c58 => ?_) (fun c58 => ?_)
        · skip
          refine z_aload_n (q := 79) C 0 rfl rfl dX2_makeOfOne_78 rfl ?_
          refine z_get (q := 82) (v := .int (nI 12)) C hiX2 0 5 rfl rfl (by decide) hf21 rfl dX2_makeOfOne_79 rfl ?_
          refine z_bipush (q := 84) C k_bipush_6 dX2_makeOfOne_82 rfl ?_
          refine z_icmp_ne_n (q := 87) (tgt := 106) C (by omega) (by omega) dX2_makeOfOne_84 (by decide) rfl (fun c84 => ?_) (fun c84 => ?_)
          · skip
            refine z_aload_n (q := 107) C 0 rfl rfl dX2_makeOfOne_106 rfl ?_
            refine z_get (q := 110) (v := .int (nI 12)) C hiX2 0 5 rfl rfl (by decide) hf21 rfl dX2_makeOfOne_107 rfl ?_
            refine z_bipush (q := 112) C k_bipush_8 dX2_makeOfOne_110 rfl ?_
            refine z_icmp_ne_n (q := 115) (tgt := 134) C (by omega) (by omega) dX2_makeOfOne_112 (by decide) rfl (fun c112 => ?_) (fun c112 => ?_)
            · skip
              refine z_aload_n (q := 135) C 0 rfl rfl dX2_makeOfOne_134 rfl ?_
              refine z_get (q := 138) (v := .int (nI 12)) C hiX2 0 5 rfl rfl (by decide) hf21 rfl dX2_makeOfOne_135 rfl ?_
              refine z_bipush (q := 140) C k_bipush_10 dX2_makeOfOne_138 rfl ?_
              refine z_icmp_ne_n (q := 143) (tgt := 162) C (by omega) (by omega) dX2_makeOfOne_140 (by decide) rfl (fun c140 => ?_) (fun c140 => ?_)
              · skip
                refine z_aload_n (q := 163) C 0 rfl rfl dX2_makeOfOne_162 rfl ?_
                refine z_get (q := 166) (v := .int (nI 12)) C hiX2 0 5 rfl rfl (by decide) hf21 rfl dX2_makeOfOne_163 rfl ?_
                refine z_bipush (q := 168) C k_bipush_12 dX2_makeOfOne_166 rfl ?_
                refine z_icmp_ne_n (q := 171) (tgt := 192) C (by omega) (by omega) dX2_makeOfOne_168 (by decide) rfl (fun c168 => ?_) (fun c168 => ?_)
                · exact absurd c168 (by decide)
                · skip
                  refine z_iload_n (q := 172) C 2 rfl rfl dX2_makeOfOne_171 rfl ?_
                  refine z_if_ne_z (q := 175) (tgt := 192) C dX2_makeOfOne_172 (by decide) rfl (fun c172 => ?_) (fun c172 => ?_)
                  · skip
                    refine z_aload_n (q := 193) C 0 rfl rfl dX2_makeOfOne_192 rfl ?_
                    refine z_get (q := 196) (v := .int (nI 12)) C hiX2 0 5 rfl rfl (by decide) hf21 rfl dX2_makeOfOne_193 rfl ?_
                    refine z_bipush (q := 198) C k_bipush_13 dX2_makeOfOne_196 rfl ?_
                    refine z_icmp_ne_n (q := 201) (tgt := 219) C (by omega) (by omega) dX2_makeOfOne_198 (by decide) rfl (fun c198 => ?_) (fun c198 => ?_)
                    · skip
                      refine z_vret C E (by omega) (by omega) dX2_makeOfOne_219 ?_
                      refine ⟨F, n, ov, ?_, rfl, rfl⟩
                      rw [show oneL nl tf 12 s p o = _ from if_neg (fun z => c172 z.1)]
                      exact hR
                    · exact absurd c198 (by decide)
                  · skip
                    refine z_iload_n (q := 176) C 3 rfl rfl dX2_makeOfOne_175 rfl ?_
                    refine z_bipush (q := 178) C k_bipush_11 dX2_makeOfOne_176 rfl ?_
                    refine z_icmp_ne (q := 181) (tgt := 192) C dX2_makeOfOne_178 (by decide) rfl (fun c178 => ?_) (fun c178 => ?_)
                    · skip
                      refine z_aload_n (q := 193) C 0 rfl rfl dX2_makeOfOne_192 rfl ?_
                      refine z_get (q := 196) (v := .int (nI 12)) C hiX2 0 5 rfl rfl (by decide) hf21 rfl dX2_makeOfOne_193 rfl ?_
                      refine z_bipush (q := 198) C k_bipush_13 dX2_makeOfOne_196 rfl ?_
                      refine z_icmp_ne_n (q := 201) (tgt := 219) C (by omega) (by omega) dX2_makeOfOne_198 (by decide) rfl (fun c198 => ?_) (fun c198 => ?_)
                      · skip
                        refine z_vret C E (by omega) (by omega) dX2_makeOfOne_219 ?_
                        refine ⟨F, n, ov, ?_, rfl, rfl⟩
                        rw [show oneL nl tf 12 s p o = _ from if_neg (fun z => c178 z.2)]
                        exact hR
                      · exact absurd c198 (by decide)
                    · skip
                      refine z_aload_n (q := 182) C 0 rfl rfl dX2_makeOfOne_181 rfl ?_
                      refine z_iload_n (q := 183) C 1 rfl rfl dX2_makeOfOne_182 rfl ?_
                      refine z_iconst (q := 184) C k_iconst_5 dX2_makeOfOne_183 rfl ?_
                      refine z_bipush (q := 186) C k_bipush_10 dX2_makeOfOne_184 rfl ?_
                      refine z_callV (q := 189) (n := 3) (As := [.int s, .int (nI 5), .int (nI 10)]) (rest := []) (wr := [(ht, .inr (4, [.ref ta, .int (nI nl)])), (ta, .inl (X.cI, 40, .inl tf))]) C (c_X2_make X.l X.D X.2.1 hr ht sp en rd 12 x y h a F n ov am S hR s (nI 5) (nI 10)) gX2_makeOfOne_X2_make rfl rfl rfl (by decide +kernel) (by decide) ⟨by first | decide | omega, by first | decide | omega⟩ 0 2 rfl rfl [0, 3, 4, 5, 6, 7, 8, 9, 10, 11, 12] [1, 2] rfl rfl (by decide) (by decide) (by decide) rfl rfl (Nat.le_of_ble_eq_true rfl) dX2_makeOfOne_186 rfl (fun v w1 hp => ?_)
                      obtain ⟨F1, n1, o1, hR1, rfl, rfl⟩ := hp
                      show zW X 4 [(ht, .inr (4, [.ref ta, .int (nI nl)])), (ta, .inl (X.cI, 40, .inl tf)), (hr, .inr (2, [.ref ht, .ref h, .int (nI sp), .int (nI en), .int rd, .int (nI 12), .int x, .int y])), (h, .inr (3, [.ref (a 0), .ref (a 1), .ref (a 2), .ref (a 3), .ref (a 4), .ref (a 5), .ref (a 6), .ref (a 7), .ref (a 8), .int (nI n1), .int (zb o1), .int am])), (a 0, .inl (X.cI, 600, .inl (F1 0))), (a 1, .inl (X.cI, 600, .inl (F1 1))), (a 2, .inl (X.cI, 600, .inl (F1 2))), (a 3, .inl (X.cI, 600, .inl (F1 3))), (a 4, .inl (X.cI, 600, .inl (F1 4))), (a 5, .inl (X.cI, 600, .inl (F1 5))), (a 6, .inl (X.cI, 600, .inl (F1 6))), (a 7, .inl (X.cI, 1024, .inl (F1 7))), (a 8, .inl (X.cZ, 600, .inl (F1 8)))] _ _ 189 _ []
                      refine z_goto (tgt := 219) C dX2_makeOfOne_189 (by decide) ?_
                      refine z_ws (ws' := [(hr, .inr (2, [.ref ht, .ref h, .int (nI sp), .int (nI en), .int rd, .int (nI 12), .int x, .int y])), (ht, .inr (4, [.ref ta, .int (nI nl)])), (ta, .inl (X.cI, 40, .inl tf)), (h, .inr (3, [.ref (a 0), .ref (a 1), .ref (a 2), .ref (a 3), .ref (a 4), .ref (a 5), .ref (a 6), .ref (a 7), .ref (a 8), .int (nI n1), .int (zb o1), .int am])), (a 0, .inl (X.cI, 600, .inl (F1 0))), (a 1, .inl (X.cI, 600, .inl (F1 1))), (a 2, .inl (X.cI, 600, .inl (F1 2))), (a 3, .inl (X.cI, 600, .inl (F1 3))), (a 4, .inl (X.cI, 600, .inl (F1 4))), (a 5, .inl (X.cI, 600, .inl (F1 5))), (a 6, .inl (X.cI, 600, .inl (F1 6))), (a 7, .inl (X.cI, 1024, .inl (F1 7))), (a 8, .inl (X.cZ, 600, .inl (F1 8)))]) [2, 0, 1, 3, 4, 5, 6, 7, 8, 9, 10, 11, 12] (by decide) rfl ?_
                      refine z_vret C E (by omega) (by omega) dX2_makeOfOne_219 ?_
                      refine ⟨F1, n1, o1, ?_, rfl, rfl⟩
                      rw [show oneL nl tf 12 s p o = _ from if_pos ⟨c172, c178⟩]
                      exact hR1
              · exact absurd c140 (by decide)
            · exact absurd c112 (by decide)
          · exact absurd c84 (by decide)
        · exact absurd c58 (by decide)
      · exact absurd c40 (by decide)
    · exact absurd c4 (by decide)
  · skip
    refine z_aload_n (q := 1) C 0 rfl rfl dX2_makeOfOne_0 rfl ?_
    refine z_get (q := 4) (v := .int (nI 13)) C hiX2 0 5 rfl rfl (by decide) hf21 rfl dX2_makeOfOne_1 rfl ?_
    refine z_if_ne_n (q := 7) (tgt := 35) C (by omega) dX2_makeOfOne_4 (by decide) rfl (fun c4 => ?_) (fun c4 => ?_)
    · skip
      refine z_aload_n (q := 36) C 0 rfl rfl dX2_makeOfOne_35 rfl ?_
      refine z_get (q := 39) (v := .int (nI 13)) C hiX2 0 5 rfl rfl (by decide) hf21 rfl dX2_makeOfOne_36 rfl ?_
      refine z_iconst (q := 40) C k_iconst_1 dX2_makeOfOne_39 rfl ?_
      refine z_icmp_ne_n (q := 43) (tgt := 53) C (by omega) (by omega) dX2_makeOfOne_40 (by decide) rfl (fun c40 => ?_) (fun c40 => ?_)
      · skip
        refine z_aload_n (q := 54) C 0 rfl rfl dX2_makeOfOne_53 rfl ?_
        refine z_get (q := 57) (v := .int (nI 13)) C hiX2 0 5 rfl rfl (by decide) hf21 rfl dX2_makeOfOne_54 rfl ?_
        refine z_iconst (q := 58) C k_iconst_4 dX2_makeOfOne_57 rfl ?_
        refine z_icmp_ne_n (q := 61) (tgt := 78) C (by omega) (by omega) dX2_makeOfOne_58 (by decide) rfl (fun c58 => ?_) (fun c58 => ?_)
        · skip
          refine z_aload_n (q := 79) C 0 rfl rfl dX2_makeOfOne_78 rfl ?_
          refine z_get (q := 82) (v := .int (nI 13)) C hiX2 0 5 rfl rfl (by decide) hf21 rfl dX2_makeOfOne_79 rfl ?_
          refine z_bipush (q := 84) C k_bipush_6 dX2_makeOfOne_82 rfl ?_
          refine z_icmp_ne_n (q := 87) (tgt := 106) C (by omega) (by omega) dX2_makeOfOne_84 (by decide) rfl (fun c84 => ?_) (fun c84 => ?_)
          · skip
            refine z_aload_n (q := 107) C 0 rfl rfl dX2_makeOfOne_106 rfl ?_
            refine z_get (q := 110) (v := .int (nI 13)) C hiX2 0 5 rfl rfl (by decide) hf21 rfl dX2_makeOfOne_107 rfl ?_
            refine z_bipush (q := 112) C k_bipush_8 dX2_makeOfOne_110 rfl ?_
            refine z_icmp_ne_n (q := 115) (tgt := 134) C (by omega) (by omega) dX2_makeOfOne_112 (by decide) rfl (fun c112 => ?_) (fun c112 => ?_)
            · skip
              refine z_aload_n (q := 135) C 0 rfl rfl dX2_makeOfOne_134 rfl ?_
              refine z_get (q := 138) (v := .int (nI 13)) C hiX2 0 5 rfl rfl (by decide) hf21 rfl dX2_makeOfOne_135 rfl ?_
              refine z_bipush (q := 140) C k_bipush_10 dX2_makeOfOne_138 rfl ?_
              refine z_icmp_ne_n (q := 143) (tgt := 162) C (by omega) (by omega) dX2_makeOfOne_140 (by decide) rfl (fun c140 => ?_) (fun c140 => ?_)
              · skip
                refine z_aload_n (q := 163) C 0 rfl rfl dX2_makeOfOne_162 rfl ?_
                refine z_get (q := 166) (v := .int (nI 13)) C hiX2 0 5 rfl rfl (by decide) hf21 rfl dX2_makeOfOne_163 rfl ?_
                refine z_bipush (q := 168) C k_bipush_12 dX2_makeOfOne_166 rfl ?_
                refine z_icmp_ne_n (q := 171) (tgt := 192) C (by omega) (by omega) dX2_makeOfOne_168 (by decide) rfl (fun c168 => ?_) (fun c168 => ?_)
                · skip
                  refine z_aload_n (q := 193) C 0 rfl rfl dX2_makeOfOne_192 rfl ?_
                  refine z_get (q := 196) (v := .int (nI 13)) C hiX2 0 5 rfl rfl (by decide) hf21 rfl dX2_makeOfOne_193 rfl ?_
                  refine z_bipush (q := 198) C k_bipush_13 dX2_makeOfOne_196 rfl ?_
                  refine z_icmp_ne_n (q := 201) (tgt := 219) C (by omega) (by omega) dX2_makeOfOne_198 (by decide) rfl (fun c198 => ?_) (fun c198 => ?_)
                  · exact absurd c198 (by decide)
                  · skip
                    refine z_iload_n (q := 202) C 2 rfl rfl dX2_makeOfOne_201 rfl ?_
                    refine z_if_ne_z (q := 205) (tgt := 219) C dX2_makeOfOne_202 (by decide) rfl (fun c202 => ?_) (fun c202 => ?_)
                    · skip
                      refine z_vret C E (by omega) (by omega) dX2_makeOfOne_219 ?_
                      refine ⟨F, n, ov, ?_, rfl, rfl⟩
                      rw [show oneL nl tf 13 s p o = _ from if_neg (fun z => c202 z.1)]
                      exact hR
                    · skip
                      refine z_iload_n (q := 206) C 3 rfl rfl dX2_makeOfOne_205 rfl ?_
                      refine z_bipush (q := 208) C k_bipush_9 dX2_makeOfOne_206 rfl ?_
                      refine z_icmp_ne (q := 211) (tgt := 219) C dX2_makeOfOne_208 (by decide) rfl (fun c208 => ?_) (fun c208 => ?_)
                      · skip
                        refine z_vret C E (by omega) (by omega) dX2_makeOfOne_219 ?_
                        refine ⟨F, n, ov, ?_, rfl, rfl⟩
                        rw [show oneL nl tf 13 s p o = _ from if_neg (fun z => c208 z.2)]
                        exact hR
                      · skip
                        refine z_aload_n (q := 212) C 0 rfl rfl dX2_makeOfOne_211 rfl ?_
                        refine z_iload_n (q := 213) C 1 rfl rfl dX2_makeOfOne_212 rfl ?_
                        refine z_iconst (q := 214) C k_iconst_4 dX2_makeOfOne_213 rfl ?_
                        refine z_bipush (q := 216) C k_bipush_8 dX2_makeOfOne_214 rfl ?_
                        refine z_callV (q := 219) (n := 3) (As := [.int s, .int (nI 4), .int (nI 8)]) (rest := []) (wr := [(ht, .inr (4, [.ref ta, .int (nI nl)])), (ta, .inl (X.cI, 40, .inl tf))]) C (c_X2_make X.l X.D X.2.1 hr ht sp en rd 13 x y h a F n ov am S hR s (nI 4) (nI 8)) gX2_makeOfOne_X2_make rfl rfl rfl (by decide +kernel) (by decide) ⟨by first | decide | omega, by first | decide | omega⟩ 0 2 rfl rfl [0, 3, 4, 5, 6, 7, 8, 9, 10, 11, 12] [1, 2] rfl rfl (by decide) (by decide) (by decide) rfl rfl (Nat.le_of_ble_eq_true rfl) dX2_makeOfOne_216 rfl (fun v w1 hp => ?_)
                        obtain ⟨F1, n1, o1, hR1, rfl, rfl⟩ := hp
                        show zW X 4 [(ht, .inr (4, [.ref ta, .int (nI nl)])), (ta, .inl (X.cI, 40, .inl tf)), (hr, .inr (2, [.ref ht, .ref h, .int (nI sp), .int (nI en), .int rd, .int (nI 13), .int x, .int y])), (h, .inr (3, [.ref (a 0), .ref (a 1), .ref (a 2), .ref (a 3), .ref (a 4), .ref (a 5), .ref (a 6), .ref (a 7), .ref (a 8), .int (nI n1), .int (zb o1), .int am])), (a 0, .inl (X.cI, 600, .inl (F1 0))), (a 1, .inl (X.cI, 600, .inl (F1 1))), (a 2, .inl (X.cI, 600, .inl (F1 2))), (a 3, .inl (X.cI, 600, .inl (F1 3))), (a 4, .inl (X.cI, 600, .inl (F1 4))), (a 5, .inl (X.cI, 600, .inl (F1 5))), (a 6, .inl (X.cI, 600, .inl (F1 6))), (a 7, .inl (X.cI, 1024, .inl (F1 7))), (a 8, .inl (X.cZ, 600, .inl (F1 8)))] _ _ 219 _ []
                        refine z_ws (ws' := [(hr, .inr (2, [.ref ht, .ref h, .int (nI sp), .int (nI en), .int rd, .int (nI 13), .int x, .int y])), (ht, .inr (4, [.ref ta, .int (nI nl)])), (ta, .inl (X.cI, 40, .inl tf)), (h, .inr (3, [.ref (a 0), .ref (a 1), .ref (a 2), .ref (a 3), .ref (a 4), .ref (a 5), .ref (a 6), .ref (a 7), .ref (a 8), .int (nI n1), .int (zb o1), .int am])), (a 0, .inl (X.cI, 600, .inl (F1 0))), (a 1, .inl (X.cI, 600, .inl (F1 1))), (a 2, .inl (X.cI, 600, .inl (F1 2))), (a 3, .inl (X.cI, 600, .inl (F1 3))), (a 4, .inl (X.cI, 600, .inl (F1 4))), (a 5, .inl (X.cI, 600, .inl (F1 5))), (a 6, .inl (X.cI, 600, .inl (F1 6))), (a 7, .inl (X.cI, 1024, .inl (F1 7))), (a 8, .inl (X.cZ, 600, .inl (F1 8)))]) [2, 0, 1, 3, 4, 5, 6, 7, 8, 9, 10, 11, 12] (by decide) rfl ?_
                        refine z_vret C E (by omega) (by omega) dX2_makeOfOne_219 ?_
                        refine ⟨F1, n1, o1, ?_, rfl, rfl⟩
                        rw [show oneL nl tf 13 s p o = _ from if_pos ⟨c202, c208⟩]
                        exact hR1
                · exact absurd c168 (by decide)
              · exact absurd c140 (by decide)
            · exact absurd c112 (by decide)
          · exact absurd c84 (by decide)
        · exact absurd c58 (by decide)
      · exact absurd c40 (by decide)
    · exact absurd c4 (by decide)

set_option maxHeartbeats 4000000 in
set_option maxRecDepth 100000 in
theorem c_X2_makeOfTwo (l : Launch) (D : va_G) (g : ClassId × ClassId × ClassId) (hr ht : Nat) (sp en : Nat) (rd : Int32) (rule : Nat) (x y : Int32) (ta nl : Nat) (hnl : nl ≤ 40) (h : Nat) (a : Nat → Nat) (F : Nat → Nat → Int32) (n : Nat) (ov : Bool) (am : Int32) (S : RSt) (hR : rowsRep F n ov S) (c d s p o : Int32) (hru : rule = 2 ∨ rule = 3 ∨ rule = 5 ∨ rule = 7 ∨ rule = 9 ∨ rule = 11) : zM l yX2_makeOfTwo wsX2_makeOfTwo ({ frames := 3, cells := 0, slots := 0, locals := 77 } : Room) D g [.ref hr, .int c, .int d, .int s, .int p, .int o] [(hr, .inr (2, [.ref ht, .ref h, .int (nI sp), .int (nI en), .int rd, .int (nI rule), .int x, .int y])), (ht, .inr (4, [.ref ta, .int (nI nl)])), (h, .inr (3, [.ref (a 0), .ref (a 1), .ref (a 2), .ref (a 3), .ref (a 4), .ref (a 5), .ref (a 6), .ref (a 7), .ref (a 8), .int (nI n), .int (zb ov), .int am])), (a 0, .inl (g.1, 600, .inl (F 0))), (a 1, .inl (g.1, 600, .inl (F 1))), (a 2, .inl (g.1, 600, .inl (F 2))), (a 3, .inl (g.1, 600, .inl (F 3))), (a 4, .inl (g.1, 600, .inl (F 4))), (a 5, .inl (g.1, 600, .inl (F 5))), (a 6, .inl (g.1, 600, .inl (F 6))), (a 7, .inl (g.1, 1024, .inl (F 7))), (a 8, .inl (g.2.1, 600, .inl (F 8)))] 0 0 (fun v w1 => ∃ (F1 : Nat → Nat → Int32) (n1 : Nat) (o1 : Bool), rowsRep F1 n1 o1 (addL S rule x y rd (twoL nl rule c d s p o)) ∧ v = none ∧ w1 = [(hr, .inr (2, [.ref ht, .ref h, .int (nI sp), .int (nI en), .int rd, .int (nI rule), .int x, .int y])), (ht, .inr (4, [.ref ta, .int (nI nl)])), (h, .inr (3, [.ref (a 0), .ref (a 1), .ref (a 2), .ref (a 3), .ref (a 4), .ref (a 5), .ref (a 6), .ref (a 7), .ref (a 8), .int (nI n1), .int (zb o1), .int am])), (a 0, .inl (g.1, 600, .inl (F1 0))), (a 1, .inl (g.1, 600, .inl (F1 1))), (a 2, .inl (g.1, 600, .inl (F1 2))), (a 3, .inl (g.1, 600, .inl (F1 3))), (a 4, .inl (g.1, 600, .inl (F1 4))), (a 5, .inl (g.1, 600, .inl (F1 5))), (a 6, .inl (g.1, 600, .inl (F1 6))), (a 7, .inl (g.1, 1024, .inl (F1 7))), (a 8, .inl (g.2.1, 600, .inl (F1 8)))]) := by
  refine z_met (cc := cX2_makeOfTwo) (maxL := 6) (ret := none) (lv := [(0, .ref hr), (1, .int c), (2, .int d), (3, .int s), (4, .int p), (5, .int o)]) (by decide) rfl (Nat.le_of_ble_eq_true rfl) rfl ?_
  intro X hXD hXg hXl hnm C E
  subst hXD hXg hXl
  have C : zC X cX2_makeOfTwo 6 RX2 wsX2_makeOfTwo ({ frames := 3, cells := 0, slots := 0, locals := 77 } : Room) := C
  have hiX2 : ∀ w ∈ u_ws RX2 TX2 8, w ∈ wsX2_makeOfTwo := by decide +kernel
  have hf21 : Cond.fieldLink RX2 21 "RdfsRules$Reasoner" "maker" "I" ∈ wsX2_makeOfTwo := by decide +kernel
  have hf30 : Cond.fieldLink RX2 30 "RdfsRules$Reasoner" "terms" "LRdfsRules$Terms;" ∈ wsX2_makeOfTwo := by decide +kernel
  rcases hru with rfl | rfl | rfl | rfl | rfl | rfl
  · skip
    refine z_aload_n (q := 1) C 0 rfl rfl dX2_makeOfTwo_0 rfl ?_
    refine z_get (q := 4) (v := .int (nI 2)) C hiX2 0 5 rfl rfl (by decide) hf21 rfl dX2_makeOfTwo_1 rfl ?_
    refine z_iconst (q := 5) C k_iconst_2 dX2_makeOfTwo_4 rfl ?_
    refine z_icmp_ne_n (q := 8) (tgt := 24) C (by omega) (by omega) dX2_makeOfTwo_5 (by decide) rfl (fun c5 => ?_) (fun c5 => ?_)
    · exact absurd c5 (by decide)
    · skip
      refine z_iload (q := 10) C 4 rfl dX2_makeOfTwo_8 rfl ?_
      refine z_iload_n (q := 11) C 1 rfl rfl dX2_makeOfTwo_10 rfl ?_
      refine z_icmp_ne (q := 14) (tgt := 24) C dX2_makeOfTwo_11 (by decide) rfl (fun c11 => ?_) (fun c11 => ?_)
      · skip
        refine z_aload_n (q := 25) C 0 rfl rfl dX2_makeOfTwo_24 rfl ?_
        refine z_get (q := 28) (v := .int (nI 2)) C hiX2 0 5 rfl rfl (by decide) hf21 rfl dX2_makeOfTwo_25 rfl ?_
        refine z_iconst (q := 29) C k_iconst_3 dX2_makeOfTwo_28 rfl ?_
        refine z_icmp_ne_n (q := 32) (tgt := 49) C (by omega) (by omega) dX2_makeOfTwo_29 (by decide) rfl (fun c29 => ?_) (fun c29 => ?_)
        · skip
          refine z_aload_n (q := 50) C 0 rfl rfl dX2_makeOfTwo_49 rfl ?_
          refine z_get (q := 53) (v := .int (nI 2)) C hiX2 0 5 rfl rfl (by decide) hf21 rfl dX2_makeOfTwo_50 rfl ?_
          refine z_iconst (q := 54) C k_iconst_5 dX2_makeOfTwo_53 rfl ?_
          refine z_icmp_ne_n (q := 57) (tgt := 79) C (by omega) (by omega) dX2_makeOfTwo_54 (by decide) rfl (fun c54 => ?_) (fun c54 => ?_)
          · skip
            refine z_aload_n (q := 80) C 0 rfl rfl dX2_makeOfTwo_79 rfl ?_
            refine z_get (q := 83) (v := .int (nI 2)) C hiX2 0 5 rfl rfl (by decide) hf21 rfl dX2_makeOfTwo_80 rfl ?_
            refine z_bipush (q := 85) C k_bipush_7 dX2_makeOfTwo_83 rfl ?_
            refine z_icmp_ne_n (q := 88) (tgt := 116) C (by omega) (by omega) dX2_makeOfTwo_85 (by decide) rfl (fun c85 => ?_) (fun c85 => ?_)
            · skip
              refine z_aload_n (q := 117) C 0 rfl rfl dX2_makeOfTwo_116 rfl ?_
              refine z_get (q := 120) (v := .int (nI 2)) C hiX2 0 5 rfl rfl (by decide) hf21 rfl dX2_makeOfTwo_117 rfl ?_
              refine z_bipush (q := 122) C k_bipush_9 dX2_makeOfTwo_120 rfl ?_
              refine z_icmp_ne_n (q := 125) (tgt := 146) C (by omega) (by omega) dX2_makeOfTwo_122 (by decide) rfl (fun c122 => ?_) (fun c122 => ?_)
              · skip
                refine z_aload_n (q := 147) C 0 rfl rfl dX2_makeOfTwo_146 rfl ?_
                refine z_get (q := 150) (v := .int (nI 2)) C hiX2 0 5 rfl rfl (by decide) hf21 rfl dX2_makeOfTwo_147 rfl ?_
                refine z_bipush (q := 152) C k_bipush_11 dX2_makeOfTwo_150 rfl ?_
                refine z_icmp_ne_n (q := 155) (tgt := 174) C (by omega) (by omega) dX2_makeOfTwo_152 (by decide) rfl (fun c152 => ?_) (fun c152 => ?_)
                · skip
                  refine z_vret C E (by omega) (by omega) dX2_makeOfTwo_174 ?_
                  refine ⟨F, n, ov, ?_, rfl, rfl⟩
                  rw [show twoL nl 2 c d s p o = _ from if_neg c11]
                  exact hR
                · exact absurd c152 (by decide)
              · exact absurd c122 (by decide)
            · exact absurd c85 (by decide)
          · exact absurd c54 (by decide)
        · exact absurd c29 (by decide)
      · skip
        refine z_aload_n (q := 15) C 0 rfl rfl dX2_makeOfTwo_14 rfl ?_
        refine z_iload_n (q := 16) C 3 rfl rfl dX2_makeOfTwo_15 rfl ?_
        refine z_iconst (q := 17) C k_iconst_0 dX2_makeOfTwo_16 rfl ?_
        refine z_iload_n (q := 18) C 2 rfl rfl dX2_makeOfTwo_17 rfl ?_
        refine z_callV (q := 21) (n := 3) (As := [.int s, .int (nI 0), .int d]) (rest := []) (wr := [(ht, .inr (4, [.ref ta, .int (nI nl)]))]) C (c_X2_make X.l X.D X.2.1 hr ht sp en rd 2 x y h a F n ov am S hR s (nI 0) d) gX2_makeOfTwo_X2_make rfl rfl rfl (by decide +kernel) (by decide) ⟨by first | decide | omega, by first | decide | omega⟩ 0 2 rfl rfl [0, 2, 3, 4, 5, 6, 7, 8, 9, 10, 11] [1] rfl rfl (by decide) (by decide) (by decide) rfl rfl (Nat.le_of_ble_eq_true rfl) dX2_makeOfTwo_18 rfl (fun v w1 hp => ?_)
        obtain ⟨F1, n1, o1, hR1, rfl, rfl⟩ := hp
        show zW X 6 [(ht, .inr (4, [.ref ta, .int (nI nl)])), (hr, .inr (2, [.ref ht, .ref h, .int (nI sp), .int (nI en), .int rd, .int (nI 2), .int x, .int y])), (h, .inr (3, [.ref (a 0), .ref (a 1), .ref (a 2), .ref (a 3), .ref (a 4), .ref (a 5), .ref (a 6), .ref (a 7), .ref (a 8), .int (nI n1), .int (zb o1), .int am])), (a 0, .inl (X.cI, 600, .inl (F1 0))), (a 1, .inl (X.cI, 600, .inl (F1 1))), (a 2, .inl (X.cI, 600, .inl (F1 2))), (a 3, .inl (X.cI, 600, .inl (F1 3))), (a 4, .inl (X.cI, 600, .inl (F1 4))), (a 5, .inl (X.cI, 600, .inl (F1 5))), (a 6, .inl (X.cI, 600, .inl (F1 6))), (a 7, .inl (X.cI, 1024, .inl (F1 7))), (a 8, .inl (X.cZ, 600, .inl (F1 8)))] _ _ 21 _ []
        refine z_goto (tgt := 174) C dX2_makeOfTwo_21 (by decide) ?_
        refine z_ws (ws' := [(hr, .inr (2, [.ref ht, .ref h, .int (nI sp), .int (nI en), .int rd, .int (nI 2), .int x, .int y])), (ht, .inr (4, [.ref ta, .int (nI nl)])), (h, .inr (3, [.ref (a 0), .ref (a 1), .ref (a 2), .ref (a 3), .ref (a 4), .ref (a 5), .ref (a 6), .ref (a 7), .ref (a 8), .int (nI n1), .int (zb o1), .int am])), (a 0, .inl (X.cI, 600, .inl (F1 0))), (a 1, .inl (X.cI, 600, .inl (F1 1))), (a 2, .inl (X.cI, 600, .inl (F1 2))), (a 3, .inl (X.cI, 600, .inl (F1 3))), (a 4, .inl (X.cI, 600, .inl (F1 4))), (a 5, .inl (X.cI, 600, .inl (F1 5))), (a 6, .inl (X.cI, 600, .inl (F1 6))), (a 7, .inl (X.cI, 1024, .inl (F1 7))), (a 8, .inl (X.cZ, 600, .inl (F1 8)))]) [1, 0, 2, 3, 4, 5, 6, 7, 8, 9, 10, 11] (by decide) rfl ?_
        refine z_vret C E (by omega) (by omega) dX2_makeOfTwo_174 ?_
        refine ⟨F1, n1, o1, ?_, rfl, rfl⟩
        rw [show twoL nl 2 c d s p o = _ from if_pos c11]
        exact hR1
  · skip
    refine z_aload_n (q := 1) C 0 rfl rfl dX2_makeOfTwo_0 rfl ?_
    refine z_get (q := 4) (v := .int (nI 3)) C hiX2 0 5 rfl rfl (by decide) hf21 rfl dX2_makeOfTwo_1 rfl ?_
    refine z_iconst (q := 5) C k_iconst_2 dX2_makeOfTwo_4 rfl ?_
    refine z_icmp_ne_n (q := 8) (tgt := 24) C (by omega) (by omega) dX2_makeOfTwo_5 (by decide) rfl (fun c5 => ?_) (fun c5 => ?_)
    · skip
      refine z_aload_n (q := 25) C 0 rfl rfl dX2_makeOfTwo_24 rfl ?_
      refine z_get (q := 28) (v := .int (nI 3)) C hiX2 0 5 rfl rfl (by decide) hf21 rfl dX2_makeOfTwo_25 rfl ?_
      refine z_iconst (q := 29) C k_iconst_3 dX2_makeOfTwo_28 rfl ?_
      refine z_icmp_ne_n (q := 32) (tgt := 49) C (by omega) (by omega) dX2_makeOfTwo_29 (by decide) rfl (fun c29 => ?_) (fun c29 => ?_)
      · exact absurd c29 (by decide)
      · skip
        refine z_iload (q := 34) C 4 rfl dX2_makeOfTwo_32 rfl ?_
        refine z_iload_n (q := 35) C 1 rfl rfl dX2_makeOfTwo_34 rfl ?_
        refine z_icmp_ne (q := 38) (tgt := 49) C dX2_makeOfTwo_35 (by decide) rfl (fun c35 => ?_) (fun c35 => ?_)
        · skip
          refine z_aload_n (q := 50) C 0 rfl rfl dX2_makeOfTwo_49 rfl ?_
          refine z_get (q := 53) (v := .int (nI 3)) C hiX2 0 5 rfl rfl (by decide) hf21 rfl dX2_makeOfTwo_50 rfl ?_
          refine z_iconst (q := 54) C k_iconst_5 dX2_makeOfTwo_53 rfl ?_
          refine z_icmp_ne_n (q := 57) (tgt := 79) C (by omega) (by omega) dX2_makeOfTwo_54 (by decide) rfl (fun c54 => ?_) (fun c54 => ?_)
          · skip
            refine z_aload_n (q := 80) C 0 rfl rfl dX2_makeOfTwo_79 rfl ?_
            refine z_get (q := 83) (v := .int (nI 3)) C hiX2 0 5 rfl rfl (by decide) hf21 rfl dX2_makeOfTwo_80 rfl ?_
            refine z_bipush (q := 85) C k_bipush_7 dX2_makeOfTwo_83 rfl ?_
            refine z_icmp_ne_n (q := 88) (tgt := 116) C (by omega) (by omega) dX2_makeOfTwo_85 (by decide) rfl (fun c85 => ?_) (fun c85 => ?_)
            · skip
              refine z_aload_n (q := 117) C 0 rfl rfl dX2_makeOfTwo_116 rfl ?_
              refine z_get (q := 120) (v := .int (nI 3)) C hiX2 0 5 rfl rfl (by decide) hf21 rfl dX2_makeOfTwo_117 rfl ?_
              refine z_bipush (q := 122) C k_bipush_9 dX2_makeOfTwo_120 rfl ?_
              refine z_icmp_ne_n (q := 125) (tgt := 146) C (by omega) (by omega) dX2_makeOfTwo_122 (by decide) rfl (fun c122 => ?_) (fun c122 => ?_)
              · skip
                refine z_aload_n (q := 147) C 0 rfl rfl dX2_makeOfTwo_146 rfl ?_
                refine z_get (q := 150) (v := .int (nI 3)) C hiX2 0 5 rfl rfl (by decide) hf21 rfl dX2_makeOfTwo_147 rfl ?_
                refine z_bipush (q := 152) C k_bipush_11 dX2_makeOfTwo_150 rfl ?_
                refine z_icmp_ne_n (q := 155) (tgt := 174) C (by omega) (by omega) dX2_makeOfTwo_152 (by decide) rfl (fun c152 => ?_) (fun c152 => ?_)
                · skip
                  refine z_vret C E (by omega) (by omega) dX2_makeOfTwo_174 ?_
                  refine ⟨F, n, ov, ?_, rfl, rfl⟩
                  rw [show twoL nl 3 c d s p o = _ from if_neg c35]
                  exact hR
                · exact absurd c152 (by decide)
              · exact absurd c122 (by decide)
            · exact absurd c85 (by decide)
          · exact absurd c54 (by decide)
        · skip
          refine z_aload_n (q := 39) C 0 rfl rfl dX2_makeOfTwo_38 rfl ?_
          refine z_iload (q := 41) C 5 rfl dX2_makeOfTwo_39 rfl ?_
          refine z_iconst (q := 42) C k_iconst_0 dX2_makeOfTwo_41 rfl ?_
          refine z_iload_n (q := 43) C 2 rfl rfl dX2_makeOfTwo_42 rfl ?_
          refine z_callV (q := 46) (n := 3) (As := [.int o, .int (nI 0), .int d]) (rest := []) (wr := [(ht, .inr (4, [.ref ta, .int (nI nl)]))]) C (c_X2_make X.l X.D X.2.1 hr ht sp en rd 3 x y h a F n ov am S hR o (nI 0) d) gX2_makeOfTwo_X2_make rfl rfl rfl (by decide +kernel) (by decide) ⟨by first | decide | omega, by first | decide | omega⟩ 0 2 rfl rfl [0, 2, 3, 4, 5, 6, 7, 8, 9, 10, 11] [1] rfl rfl (by decide) (by decide) (by decide) rfl rfl (Nat.le_of_ble_eq_true rfl) dX2_makeOfTwo_43 rfl (fun v w1 hp => ?_)
          obtain ⟨F1, n1, o1, hR1, rfl, rfl⟩ := hp
          show zW X 6 [(ht, .inr (4, [.ref ta, .int (nI nl)])), (hr, .inr (2, [.ref ht, .ref h, .int (nI sp), .int (nI en), .int rd, .int (nI 3), .int x, .int y])), (h, .inr (3, [.ref (a 0), .ref (a 1), .ref (a 2), .ref (a 3), .ref (a 4), .ref (a 5), .ref (a 6), .ref (a 7), .ref (a 8), .int (nI n1), .int (zb o1), .int am])), (a 0, .inl (X.cI, 600, .inl (F1 0))), (a 1, .inl (X.cI, 600, .inl (F1 1))), (a 2, .inl (X.cI, 600, .inl (F1 2))), (a 3, .inl (X.cI, 600, .inl (F1 3))), (a 4, .inl (X.cI, 600, .inl (F1 4))), (a 5, .inl (X.cI, 600, .inl (F1 5))), (a 6, .inl (X.cI, 600, .inl (F1 6))), (a 7, .inl (X.cI, 1024, .inl (F1 7))), (a 8, .inl (X.cZ, 600, .inl (F1 8)))] _ _ 46 _ []
          refine z_goto (tgt := 174) C dX2_makeOfTwo_46 (by decide) ?_
          refine z_ws (ws' := [(hr, .inr (2, [.ref ht, .ref h, .int (nI sp), .int (nI en), .int rd, .int (nI 3), .int x, .int y])), (ht, .inr (4, [.ref ta, .int (nI nl)])), (h, .inr (3, [.ref (a 0), .ref (a 1), .ref (a 2), .ref (a 3), .ref (a 4), .ref (a 5), .ref (a 6), .ref (a 7), .ref (a 8), .int (nI n1), .int (zb o1), .int am])), (a 0, .inl (X.cI, 600, .inl (F1 0))), (a 1, .inl (X.cI, 600, .inl (F1 1))), (a 2, .inl (X.cI, 600, .inl (F1 2))), (a 3, .inl (X.cI, 600, .inl (F1 3))), (a 4, .inl (X.cI, 600, .inl (F1 4))), (a 5, .inl (X.cI, 600, .inl (F1 5))), (a 6, .inl (X.cI, 600, .inl (F1 6))), (a 7, .inl (X.cI, 1024, .inl (F1 7))), (a 8, .inl (X.cZ, 600, .inl (F1 8)))]) [1, 0, 2, 3, 4, 5, 6, 7, 8, 9, 10, 11] (by decide) rfl ?_
          refine z_vret C E (by omega) (by omega) dX2_makeOfTwo_174 ?_
          refine ⟨F1, n1, o1, ?_, rfl, rfl⟩
          rw [show twoL nl 3 c d s p o = _ from if_pos c35]
          exact hR1
    · exact absurd c5 (by decide)
  · skip
    refine z_aload_n (q := 1) C 0 rfl rfl dX2_makeOfTwo_0 rfl ?_
    refine z_get (q := 4) (v := .int (nI 5)) C hiX2 0 5 rfl rfl (by decide) hf21 rfl dX2_makeOfTwo_1 rfl ?_
    refine z_iconst (q := 5) C k_iconst_2 dX2_makeOfTwo_4 rfl ?_
    refine z_icmp_ne_n (q := 8) (tgt := 24) C (by omega) (by omega) dX2_makeOfTwo_5 (by decide) rfl (fun c5 => ?_) (fun c5 => ?_)
    · skip
      refine z_aload_n (q := 25) C 0 rfl rfl dX2_makeOfTwo_24 rfl ?_
      refine z_get (q := 28) (v := .int (nI 5)) C hiX2 0 5 rfl rfl (by decide) hf21 rfl dX2_makeOfTwo_25 rfl ?_
      refine z_iconst (q := 29) C k_iconst_3 dX2_makeOfTwo_28 rfl ?_
      refine z_icmp_ne_n (q := 32) (tgt := 49) C (by omega) (by omega) dX2_makeOfTwo_29 (by decide) rfl (fun c29 => ?_) (fun c29 => ?_)
      · skip
        refine z_aload_n (q := 50) C 0 rfl rfl dX2_makeOfTwo_49 rfl ?_
        refine z_get (q := 53) (v := .int (nI 5)) C hiX2 0 5 rfl rfl (by decide) hf21 rfl dX2_makeOfTwo_50 rfl ?_
        refine z_iconst (q := 54) C k_iconst_5 dX2_makeOfTwo_53 rfl ?_
        refine z_icmp_ne_n (q := 57) (tgt := 79) C (by omega) (by omega) dX2_makeOfTwo_54 (by decide) rfl (fun c54 => ?_) (fun c54 => ?_)
        · exact absurd c54 (by decide)
        · skip
          refine z_iload (q := 59) C 4 rfl dX2_makeOfTwo_57 rfl ?_
          refine z_iconst (q := 60) C k_iconst_5 dX2_makeOfTwo_59 rfl ?_
          refine z_icmp_ne (q := 63) (tgt := 79) C dX2_makeOfTwo_60 (by decide) rfl (fun c60 => ?_) (fun c60 => ?_)
          · skip
            refine z_aload_n (q := 80) C 0 rfl rfl dX2_makeOfTwo_79 rfl ?_
            refine z_get (q := 83) (v := .int (nI 5)) C hiX2 0 5 rfl rfl (by decide) hf21 rfl dX2_makeOfTwo_80 rfl ?_
            refine z_bipush (q := 85) C k_bipush_7 dX2_makeOfTwo_83 rfl ?_
            refine z_icmp_ne_n (q := 88) (tgt := 116) C (by omega) (by omega) dX2_makeOfTwo_85 (by decide) rfl (fun c85 => ?_) (fun c85 => ?_)
            · skip
              refine z_aload_n (q := 117) C 0 rfl rfl dX2_makeOfTwo_116 rfl ?_
              refine z_get (q := 120) (v := .int (nI 5)) C hiX2 0 5 rfl rfl (by decide) hf21 rfl dX2_makeOfTwo_117 rfl ?_
              refine z_bipush (q := 122) C k_bipush_9 dX2_makeOfTwo_120 rfl ?_
              refine z_icmp_ne_n (q := 125) (tgt := 146) C (by omega) (by omega) dX2_makeOfTwo_122 (by decide) rfl (fun c122 => ?_) (fun c122 => ?_)
              · skip
                refine z_aload_n (q := 147) C 0 rfl rfl dX2_makeOfTwo_146 rfl ?_
                refine z_get (q := 150) (v := .int (nI 5)) C hiX2 0 5 rfl rfl (by decide) hf21 rfl dX2_makeOfTwo_147 rfl ?_
                refine z_bipush (q := 152) C k_bipush_11 dX2_makeOfTwo_150 rfl ?_
                refine z_icmp_ne_n (q := 155) (tgt := 174) C (by omega) (by omega) dX2_makeOfTwo_152 (by decide) rfl (fun c152 => ?_) (fun c152 => ?_)
                · skip
                  refine z_vret C E (by omega) (by omega) dX2_makeOfTwo_174 ?_
                  refine ⟨F, n, ov, ?_, rfl, rfl⟩
                  rw [show twoL nl 5 c d s p o = _ from if_neg (fun z => c60 z.1)]
                  exact hR
                · exact absurd c152 (by decide)
              · exact absurd c122 (by decide)
            · exact absurd c85 (by decide)
          · skip
            refine z_iload_n (q := 64) C 3 rfl rfl dX2_makeOfTwo_63 rfl ?_
            refine z_iload_n (q := 65) C 2 rfl rfl dX2_makeOfTwo_64 rfl ?_
            refine z_icmp_ne (q := 68) (tgt := 79) C dX2_makeOfTwo_65 (by decide) rfl (fun c65 => ?_) (fun c65 => ?_)
            · skip
              refine z_aload_n (q := 80) C 0 rfl rfl dX2_makeOfTwo_79 rfl ?_
              refine z_get (q := 83) (v := .int (nI 5)) C hiX2 0 5 rfl rfl (by decide) hf21 rfl dX2_makeOfTwo_80 rfl ?_
              refine z_bipush (q := 85) C k_bipush_7 dX2_makeOfTwo_83 rfl ?_
              refine z_icmp_ne_n (q := 88) (tgt := 116) C (by omega) (by omega) dX2_makeOfTwo_85 (by decide) rfl (fun c85 => ?_) (fun c85 => ?_)
              · skip
                refine z_aload_n (q := 117) C 0 rfl rfl dX2_makeOfTwo_116 rfl ?_
                refine z_get (q := 120) (v := .int (nI 5)) C hiX2 0 5 rfl rfl (by decide) hf21 rfl dX2_makeOfTwo_117 rfl ?_
                refine z_bipush (q := 122) C k_bipush_9 dX2_makeOfTwo_120 rfl ?_
                refine z_icmp_ne_n (q := 125) (tgt := 146) C (by omega) (by omega) dX2_makeOfTwo_122 (by decide) rfl (fun c122 => ?_) (fun c122 => ?_)
                · skip
                  refine z_aload_n (q := 147) C 0 rfl rfl dX2_makeOfTwo_146 rfl ?_
                  refine z_get (q := 150) (v := .int (nI 5)) C hiX2 0 5 rfl rfl (by decide) hf21 rfl dX2_makeOfTwo_147 rfl ?_
                  refine z_bipush (q := 152) C k_bipush_11 dX2_makeOfTwo_150 rfl ?_
                  refine z_icmp_ne_n (q := 155) (tgt := 174) C (by omega) (by omega) dX2_makeOfTwo_152 (by decide) rfl (fun c152 => ?_) (fun c152 => ?_)
                  · skip
                    refine z_vret C E (by omega) (by omega) dX2_makeOfTwo_174 ?_
                    refine ⟨F, n, ov, ?_, rfl, rfl⟩
                    rw [show twoL nl 5 c d s p o = _ from if_neg (fun z => c65 z.2)]
                    exact hR
                  · exact absurd c152 (by decide)
                · exact absurd c122 (by decide)
              · exact absurd c85 (by decide)
            · skip
              refine z_aload_n (q := 69) C 0 rfl rfl dX2_makeOfTwo_68 rfl ?_
              refine z_iload_n (q := 70) C 1 rfl rfl dX2_makeOfTwo_69 rfl ?_
              refine z_iconst (q := 71) C k_iconst_5 dX2_makeOfTwo_70 rfl ?_
              refine z_iload (q := 73) C 5 rfl dX2_makeOfTwo_71 rfl ?_
              refine z_callV (q := 76) (n := 3) (As := [.int c, .int (nI 5), .int o]) (rest := []) (wr := [(ht, .inr (4, [.ref ta, .int (nI nl)]))]) C (c_X2_make X.l X.D X.2.1 hr ht sp en rd 5 x y h a F n ov am S hR c (nI 5) o) gX2_makeOfTwo_X2_make rfl rfl rfl (by decide +kernel) (by decide) ⟨by first | decide | omega, by first | decide | omega⟩ 0 2 rfl rfl [0, 2, 3, 4, 5, 6, 7, 8, 9, 10, 11] [1] rfl rfl (by decide) (by decide) (by decide) rfl rfl (Nat.le_of_ble_eq_true rfl) dX2_makeOfTwo_73 rfl (fun v w1 hp => ?_)
              obtain ⟨F1, n1, o1, hR1, rfl, rfl⟩ := hp
              show zW X 6 [(ht, .inr (4, [.ref ta, .int (nI nl)])), (hr, .inr (2, [.ref ht, .ref h, .int (nI sp), .int (nI en), .int rd, .int (nI 5), .int x, .int y])), (h, .inr (3, [.ref (a 0), .ref (a 1), .ref (a 2), .ref (a 3), .ref (a 4), .ref (a 5), .ref (a 6), .ref (a 7), .ref (a 8), .int (nI n1), .int (zb o1), .int am])), (a 0, .inl (X.cI, 600, .inl (F1 0))), (a 1, .inl (X.cI, 600, .inl (F1 1))), (a 2, .inl (X.cI, 600, .inl (F1 2))), (a 3, .inl (X.cI, 600, .inl (F1 3))), (a 4, .inl (X.cI, 600, .inl (F1 4))), (a 5, .inl (X.cI, 600, .inl (F1 5))), (a 6, .inl (X.cI, 600, .inl (F1 6))), (a 7, .inl (X.cI, 1024, .inl (F1 7))), (a 8, .inl (X.cZ, 600, .inl (F1 8)))] _ _ 76 _ []
              refine z_goto (tgt := 174) C dX2_makeOfTwo_76 (by decide) ?_
              refine z_ws (ws' := [(hr, .inr (2, [.ref ht, .ref h, .int (nI sp), .int (nI en), .int rd, .int (nI 5), .int x, .int y])), (ht, .inr (4, [.ref ta, .int (nI nl)])), (h, .inr (3, [.ref (a 0), .ref (a 1), .ref (a 2), .ref (a 3), .ref (a 4), .ref (a 5), .ref (a 6), .ref (a 7), .ref (a 8), .int (nI n1), .int (zb o1), .int am])), (a 0, .inl (X.cI, 600, .inl (F1 0))), (a 1, .inl (X.cI, 600, .inl (F1 1))), (a 2, .inl (X.cI, 600, .inl (F1 2))), (a 3, .inl (X.cI, 600, .inl (F1 3))), (a 4, .inl (X.cI, 600, .inl (F1 4))), (a 5, .inl (X.cI, 600, .inl (F1 5))), (a 6, .inl (X.cI, 600, .inl (F1 6))), (a 7, .inl (X.cI, 1024, .inl (F1 7))), (a 8, .inl (X.cZ, 600, .inl (F1 8)))]) [1, 0, 2, 3, 4, 5, 6, 7, 8, 9, 10, 11] (by decide) rfl ?_
              refine z_vret C E (by omega) (by omega) dX2_makeOfTwo_174 ?_
              refine ⟨F1, n1, o1, ?_, rfl, rfl⟩
              rw [show twoL nl 5 c d s p o = _ from if_pos ⟨c60, c65⟩]
              exact hR1
      · exact absurd c29 (by decide)
    · exact absurd c5 (by decide)
  · skip
    refine z_aload_n (q := 1) C 0 rfl rfl dX2_makeOfTwo_0 rfl ?_
    refine z_get (q := 4) (v := .int (nI 7)) C hiX2 0 5 rfl rfl (by decide) hf21 rfl dX2_makeOfTwo_1 rfl ?_
    refine z_iconst (q := 5) C k_iconst_2 dX2_makeOfTwo_4 rfl ?_
    refine z_icmp_ne_n (q := 8) (tgt := 24) C (by omega) (by omega) dX2_makeOfTwo_5 (by decide) rfl (fun c5 => ?_) (fun c5 => ?_)
    · skip
      refine z_aload_n (q := 25) C 0 rfl rfl dX2_makeOfTwo_24 rfl ?_
      refine z_get (q := 28) (v := .int (nI 7)) C hiX2 0 5 rfl rfl (by decide) hf21 rfl dX2_makeOfTwo_25 rfl ?_
      refine z_iconst (q := 29) C k_iconst_3 dX2_makeOfTwo_28 rfl ?_
      refine z_icmp_ne_n (q := 32) (tgt := 49) C (by omega) (by omega) dX2_makeOfTwo_29 (by decide) rfl (fun c29 => ?_) (fun c29 => ?_)
      · skip
        refine z_aload_n (q := 50) C 0 rfl rfl dX2_makeOfTwo_49 rfl ?_
        refine z_get (q := 53) (v := .int (nI 7)) C hiX2 0 5 rfl rfl (by decide) hf21 rfl dX2_makeOfTwo_50 rfl ?_
        refine z_iconst (q := 54) C k_iconst_5 dX2_makeOfTwo_53 rfl ?_
        refine z_icmp_ne_n (q := 57) (tgt := 79) C (by omega) (by omega) dX2_makeOfTwo_54 (by decide) rfl (fun c54 => ?_) (fun c54 => ?_)
        · skip
          refine z_aload_n (q := 80) C 0 rfl rfl dX2_makeOfTwo_79 rfl ?_
          refine z_get (q := 83) (v := .int (nI 7)) C hiX2 0 5 rfl rfl (by decide) hf21 rfl dX2_makeOfTwo_80 rfl ?_
          refine z_bipush (q := 85) C k_bipush_7 dX2_makeOfTwo_83 rfl ?_
          refine z_icmp_ne_n (q := 88) (tgt := 116) C (by omega) (by omega) dX2_makeOfTwo_85 (by decide) rfl (fun c85 => ?_) (fun c85 => ?_)
          · exact absurd c85 (by decide)
          · skip
            refine z_iload (q := 90) C 4 rfl dX2_makeOfTwo_88 rfl ?_
            refine z_iload_n (q := 91) C 1 rfl rfl dX2_makeOfTwo_90 rfl ?_
            refine z_icmp_ne (q := 94) (tgt := 116) C dX2_makeOfTwo_91 (by decide) rfl (fun c91 => ?_) (fun c91 => ?_)
            · skip
              refine z_aload_n (q := 117) C 0 rfl rfl dX2_makeOfTwo_116 rfl ?_
              refine z_get (q := 120) (v := .int (nI 7)) C hiX2 0 5 rfl rfl (by decide) hf21 rfl dX2_makeOfTwo_117 rfl ?_
              refine z_bipush (q := 122) C k_bipush_9 dX2_makeOfTwo_120 rfl ?_
              refine z_icmp_ne_n (q := 125) (tgt := 146) C (by omega) (by omega) dX2_makeOfTwo_122 (by decide) rfl (fun c122 => ?_) (fun c122 => ?_)
              · skip
                refine z_aload_n (q := 147) C 0 rfl rfl dX2_makeOfTwo_146 rfl ?_
                refine z_get (q := 150) (v := .int (nI 7)) C hiX2 0 5 rfl rfl (by decide) hf21 rfl dX2_makeOfTwo_147 rfl ?_
                refine z_bipush (q := 152) C k_bipush_11 dX2_makeOfTwo_150 rfl ?_
                refine z_icmp_ne_n (q := 155) (tgt := 174) C (by omega) (by omega) dX2_makeOfTwo_152 (by decide) rfl (fun c152 => ?_) (fun c152 => ?_)
                · skip
                  refine z_vret C E (by omega) (by omega) dX2_makeOfTwo_174 ?_
                  refine ⟨F, n, ov, ?_, rfl, rfl⟩
                  rw [show twoL nl 7 c d s p o = _ from if_neg (fun z => c91 z.1)]
                  exact hR
                · exact absurd c152 (by decide)
              · exact absurd c122 (by decide)
            · skip
              refine z_aload_n (q := 95) C 0 rfl rfl dX2_makeOfTwo_94 rfl ?_
              refine z_get (q := 98) (v := .ref ht) C hiX2 0 0 rfl rfl (by decide) hf30 rfl dX2_makeOfTwo_95 rfl ?_
              refine z_iload_n (q := 99) C 2 rfl rfl dX2_makeOfTwo_98 rfl ?_
              refine z_callV (q := 102) (n := 1) (As := [.int d]) (rest := []) (wr := [(hr, .inr (2, [.ref ht, .ref h, .int (nI sp), .int (nI en), .int rd, .int (nI 7), .int x, .int y])), (h, .inr (3, [.ref (a 0), .ref (a 1), .ref (a 2), .ref (a 3), .ref (a 4), .ref (a 5), .ref (a 6), .ref (a 7), .ref (a 8), .int (nI n), .int (zb ov), .int am])), (a 0, .inl (X.cI, 600, .inl (F 0))), (a 1, .inl (X.cI, 600, .inl (F 1))), (a 2, .inl (X.cI, 600, .inl (F 2))), (a 3, .inl (X.cI, 600, .inl (F 3))), (a 4, .inl (X.cI, 600, .inl (F 4))), (a 5, .inl (X.cI, 600, .inl (F 5))), (a 6, .inl (X.cI, 600, .inl (F 6))), (a 7, .inl (X.cI, 1024, .inl (F 7))), (a 8, .inl (X.cZ, 600, .inl (F 8)))]) C (c_X4_isLiteral X.l X.D X.2.1 ht ta nl hnl d) gX2_makeOfTwo_X4_isLiteral rfl rfl rfl (by decide +kernel) (by decide) ⟨by first | decide | omega, by first | decide | omega⟩ 0 4 rfl rfl [1] [0, 2, 3, 4, 5, 6, 7, 8, 9, 10, 11] rfl rfl (by decide) (by decide) (by decide) rfl rfl (Nat.le_of_ble_eq_true rfl) dX2_makeOfTwo_99 rfl (fun v w1 hp => ?_)
              obtain ⟨rfl, rfl⟩ := hp
              show zW X 6 [(hr, .inr (2, [.ref ht, .ref h, .int (nI sp), .int (nI en), .int rd, .int (nI 7), .int x, .int y])), (h, .inr (3, [.ref (a 0), .ref (a 1), .ref (a 2), .ref (a 3), .ref (a 4), .ref (a 5), .ref (a 6), .ref (a 7), .ref (a 8), .int (nI n), .int (zb ov), .int am])), (a 0, .inl (X.cI, 600, .inl (F 0))), (a 1, .inl (X.cI, 600, .inl (F 1))), (a 2, .inl (X.cI, 600, .inl (F 2))), (a 3, .inl (X.cI, 600, .inl (F 3))), (a 4, .inl (X.cI, 600, .inl (F 4))), (a 5, .inl (X.cI, 600, .inl (F 5))), (a 6, .inl (X.cI, 600, .inl (F 6))), (a 7, .inl (X.cI, 1024, .inl (F 7))), (a 8, .inl (X.cZ, 600, .inl (F 8))), (ht, .inr (4, [.ref ta, .int (nI nl)]))] _ _ 102 _ [.int (zb (litB nl d))]
              refine z_if_ne_b (q := 105) (tgt := 116) C dX2_makeOfTwo_102 (by decide) rfl (fun c102 => ?_) (fun c102 => ?_)
              · skip
                refine z_aload_n (q := 117) C 0 rfl rfl dX2_makeOfTwo_116 rfl ?_
                refine z_get (q := 120) (v := .int (nI 7)) C hiX2 0 5 rfl rfl (by decide) hf21 rfl dX2_makeOfTwo_117 rfl ?_
                refine z_bipush (q := 122) C k_bipush_9 dX2_makeOfTwo_120 rfl ?_
                refine z_icmp_ne_n (q := 125) (tgt := 146) C (by omega) (by omega) dX2_makeOfTwo_122 (by decide) rfl (fun c122 => ?_) (fun c122 => ?_)
                · skip
                  refine z_aload_n (q := 147) C 0 rfl rfl dX2_makeOfTwo_146 rfl ?_
                  refine z_get (q := 150) (v := .int (nI 7)) C hiX2 0 5 rfl rfl (by decide) hf21 rfl dX2_makeOfTwo_147 rfl ?_
                  refine z_bipush (q := 152) C k_bipush_11 dX2_makeOfTwo_150 rfl ?_
                  refine z_icmp_ne_n (q := 155) (tgt := 174) C (by omega) (by omega) dX2_makeOfTwo_152 (by decide) rfl (fun c152 => ?_) (fun c152 => ?_)
                  · skip
                    refine z_ws (ws' := [(hr, .inr (2, [.ref ht, .ref h, .int (nI sp), .int (nI en), .int rd, .int (nI 7), .int x, .int y])), (ht, .inr (4, [.ref ta, .int (nI nl)])), (h, .inr (3, [.ref (a 0), .ref (a 1), .ref (a 2), .ref (a 3), .ref (a 4), .ref (a 5), .ref (a 6), .ref (a 7), .ref (a 8), .int (nI n), .int (zb ov), .int am])), (a 0, .inl (X.cI, 600, .inl (F 0))), (a 1, .inl (X.cI, 600, .inl (F 1))), (a 2, .inl (X.cI, 600, .inl (F 2))), (a 3, .inl (X.cI, 600, .inl (F 3))), (a 4, .inl (X.cI, 600, .inl (F 4))), (a 5, .inl (X.cI, 600, .inl (F 5))), (a 6, .inl (X.cI, 600, .inl (F 6))), (a 7, .inl (X.cI, 1024, .inl (F 7))), (a 8, .inl (X.cZ, 600, .inl (F 8)))]) [0, 11, 1, 2, 3, 4, 5, 6, 7, 8, 9, 10] (by decide) rfl ?_
                    refine z_vret C E (by omega) (by omega) dX2_makeOfTwo_174 ?_
                    refine ⟨F, n, ov, ?_, rfl, rfl⟩
                    rw [show twoL nl 7 c d s p o = _ from if_neg (fun z => by rw [c102] at z; exact absurd z.2 (by decide))]
                    exact hR
                  · exact absurd c152 (by decide)
                · exact absurd c122 (by decide)
              · skip
                refine z_aload_n (q := 106) C 0 rfl rfl dX2_makeOfTwo_105 rfl ?_
                refine z_iload_n (q := 107) C 3 rfl rfl dX2_makeOfTwo_106 rfl ?_
                refine z_iload_n (q := 108) C 2 rfl rfl dX2_makeOfTwo_107 rfl ?_
                refine z_iload (q := 110) C 5 rfl dX2_makeOfTwo_108 rfl ?_
                refine z_callV (q := 113) (n := 3) (As := [.int s, .int d, .int o]) (rest := []) (wr := [(ht, .inr (4, [.ref ta, .int (nI nl)]))]) C (c_X2_make X.l X.D X.2.1 hr ht sp en rd 7 x y h a F n ov am S hR s d o) gX2_makeOfTwo_X2_make rfl rfl rfl (by decide +kernel) (by decide) ⟨by first | decide | omega, by first | decide | omega⟩ 0 2 rfl rfl [0, 1, 2, 3, 4, 5, 6, 7, 8, 9, 10] [11] rfl rfl (by decide) (by decide) (by decide) rfl rfl (Nat.le_of_ble_eq_true rfl) dX2_makeOfTwo_110 rfl (fun v w1 hp => ?_)
                obtain ⟨F1, n1, o1, hR1, rfl, rfl⟩ := hp
                show zW X 6 [(ht, .inr (4, [.ref ta, .int (nI nl)])), (hr, .inr (2, [.ref ht, .ref h, .int (nI sp), .int (nI en), .int rd, .int (nI 7), .int x, .int y])), (h, .inr (3, [.ref (a 0), .ref (a 1), .ref (a 2), .ref (a 3), .ref (a 4), .ref (a 5), .ref (a 6), .ref (a 7), .ref (a 8), .int (nI n1), .int (zb o1), .int am])), (a 0, .inl (X.cI, 600, .inl (F1 0))), (a 1, .inl (X.cI, 600, .inl (F1 1))), (a 2, .inl (X.cI, 600, .inl (F1 2))), (a 3, .inl (X.cI, 600, .inl (F1 3))), (a 4, .inl (X.cI, 600, .inl (F1 4))), (a 5, .inl (X.cI, 600, .inl (F1 5))), (a 6, .inl (X.cI, 600, .inl (F1 6))), (a 7, .inl (X.cI, 1024, .inl (F1 7))), (a 8, .inl (X.cZ, 600, .inl (F1 8)))] _ _ 113 _ []
                refine z_goto (tgt := 174) C dX2_makeOfTwo_113 (by decide) ?_
                refine z_ws (ws' := [(hr, .inr (2, [.ref ht, .ref h, .int (nI sp), .int (nI en), .int rd, .int (nI 7), .int x, .int y])), (ht, .inr (4, [.ref ta, .int (nI nl)])), (h, .inr (3, [.ref (a 0), .ref (a 1), .ref (a 2), .ref (a 3), .ref (a 4), .ref (a 5), .ref (a 6), .ref (a 7), .ref (a 8), .int (nI n1), .int (zb o1), .int am])), (a 0, .inl (X.cI, 600, .inl (F1 0))), (a 1, .inl (X.cI, 600, .inl (F1 1))), (a 2, .inl (X.cI, 600, .inl (F1 2))), (a 3, .inl (X.cI, 600, .inl (F1 3))), (a 4, .inl (X.cI, 600, .inl (F1 4))), (a 5, .inl (X.cI, 600, .inl (F1 5))), (a 6, .inl (X.cI, 600, .inl (F1 6))), (a 7, .inl (X.cI, 1024, .inl (F1 7))), (a 8, .inl (X.cZ, 600, .inl (F1 8)))]) [1, 0, 2, 3, 4, 5, 6, 7, 8, 9, 10, 11] (by decide) rfl ?_
                refine z_vret C E (by omega) (by omega) dX2_makeOfTwo_174 ?_
                refine ⟨F1, n1, o1, ?_, rfl, rfl⟩
                rw [show twoL nl 7 c d s p o = _ from if_pos ⟨c91, c102⟩]
                exact hR1
        · exact absurd c54 (by decide)
      · exact absurd c29 (by decide)
    · exact absurd c5 (by decide)
  · skip
    refine z_aload_n (q := 1) C 0 rfl rfl dX2_makeOfTwo_0 rfl ?_
    refine z_get (q := 4) (v := .int (nI 9)) C hiX2 0 5 rfl rfl (by decide) hf21 rfl dX2_makeOfTwo_1 rfl ?_
    refine z_iconst (q := 5) C k_iconst_2 dX2_makeOfTwo_4 rfl ?_
    refine z_icmp_ne_n (q := 8) (tgt := 24) C (by omega) (by omega) dX2_makeOfTwo_5 (by decide) rfl (fun c5 => ?_) (fun c5 => ?_)
    · skip
      refine z_aload_n (q := 25) C 0 rfl rfl dX2_makeOfTwo_24 rfl ?_
      refine z_get (q := 28) (v := .int (nI 9)) C hiX2 0 5 rfl rfl (by decide) hf21 rfl dX2_makeOfTwo_25 rfl ?_
      refine z_iconst (q := 29) C k_iconst_3 dX2_makeOfTwo_28 rfl ?_
      refine z_icmp_ne_n (q := 32) (tgt := 49) C (by omega) (by omega) dX2_makeOfTwo_29 (by decide) rfl (fun c29 => ?_) (fun c29 => ?_)
      · skip
        refine z_aload_n (q := 50) C 0 rfl rfl dX2_makeOfTwo_49 rfl ?_
        refine z_get (q := 53) (v := .int (nI 9)) C hiX2 0 5 rfl rfl (by decide) hf21 rfl dX2_makeOfTwo_50 rfl ?_
        refine z_iconst (q := 54) C k_iconst_5 dX2_makeOfTwo_53 rfl ?_
        refine z_icmp_ne_n (q := 57) (tgt := 79) C (by omega) (by omega) dX2_makeOfTwo_54 (by decide) rfl (fun c54 => ?_) (fun c54 => ?_)
        · skip
          refine z_aload_n (q := 80) C 0 rfl rfl dX2_makeOfTwo_79 rfl ?_
          refine z_get (q := 83) (v := .int (nI 9)) C hiX2 0 5 rfl rfl (by decide) hf21 rfl dX2_makeOfTwo_80 rfl ?_
          refine z_bipush (q := 85) C k_bipush_7 dX2_makeOfTwo_83 rfl ?_
          refine z_icmp_ne_n (q := 88) (tgt := 116) C (by omega) (by omega) dX2_makeOfTwo_85 (by decide) rfl (fun c85 => ?_) (fun c85 => ?_)
          · skip
            refine z_aload_n (q := 117) C 0 rfl rfl dX2_makeOfTwo_116 rfl ?_
            refine z_get (q := 120) (v := .int (nI 9)) C hiX2 0 5 rfl rfl (by decide) hf21 rfl dX2_makeOfTwo_117 rfl ?_
            refine z_bipush (q := 122) C k_bipush_9 dX2_makeOfTwo_120 rfl ?_
            refine z_icmp_ne_n (q := 125) (tgt := 146) C (by omega) (by omega) dX2_makeOfTwo_122 (by decide) rfl (fun c122 => ?_) (fun c122 => ?_)
            · exact absurd c122 (by decide)
            · skip
              refine z_iload (q := 127) C 4 rfl dX2_makeOfTwo_125 rfl ?_
              refine z_if_ne_z (q := 130) (tgt := 146) C dX2_makeOfTwo_127 (by decide) rfl (fun c127 => ?_) (fun c127 => ?_)
              · skip
                refine z_aload_n (q := 147) C 0 rfl rfl dX2_makeOfTwo_146 rfl ?_
                refine z_get (q := 150) (v := .int (nI 9)) C hiX2 0 5 rfl rfl (by decide) hf21 rfl dX2_makeOfTwo_147 rfl ?_
                refine z_bipush (q := 152) C k_bipush_11 dX2_makeOfTwo_150 rfl ?_
                refine z_icmp_ne_n (q := 155) (tgt := 174) C (by omega) (by omega) dX2_makeOfTwo_152 (by decide) rfl (fun c152 => ?_) (fun c152 => ?_)
                · skip
                  refine z_vret C E (by omega) (by omega) dX2_makeOfTwo_174 ?_
                  refine ⟨F, n, ov, ?_, rfl, rfl⟩
                  rw [show twoL nl 9 c d s p o = _ from if_neg (fun z => c127 z.1)]
                  exact hR
                · exact absurd c152 (by decide)
              · skip
                refine z_iload (q := 132) C 5 rfl dX2_makeOfTwo_130 rfl ?_
                refine z_iload_n (q := 133) C 1 rfl rfl dX2_makeOfTwo_132 rfl ?_
                refine z_icmp_ne (q := 136) (tgt := 146) C dX2_makeOfTwo_133 (by decide) rfl (fun c133 => ?_) (fun c133 => ?_)
                · skip
                  refine z_aload_n (q := 147) C 0 rfl rfl dX2_makeOfTwo_146 rfl ?_
                  refine z_get (q := 150) (v := .int (nI 9)) C hiX2 0 5 rfl rfl (by decide) hf21 rfl dX2_makeOfTwo_147 rfl ?_
                  refine z_bipush (q := 152) C k_bipush_11 dX2_makeOfTwo_150 rfl ?_
                  refine z_icmp_ne_n (q := 155) (tgt := 174) C (by omega) (by omega) dX2_makeOfTwo_152 (by decide) rfl (fun c152 => ?_) (fun c152 => ?_)
                  · skip
                    refine z_vret C E (by omega) (by omega) dX2_makeOfTwo_174 ?_
                    refine ⟨F, n, ov, ?_, rfl, rfl⟩
                    rw [show twoL nl 9 c d s p o = _ from if_neg (fun z => c133 z.2)]
                    exact hR
                  · exact absurd c152 (by decide)
                · skip
                  refine z_aload_n (q := 137) C 0 rfl rfl dX2_makeOfTwo_136 rfl ?_
                  refine z_iload_n (q := 138) C 3 rfl rfl dX2_makeOfTwo_137 rfl ?_
                  refine z_iconst (q := 139) C k_iconst_0 dX2_makeOfTwo_138 rfl ?_
                  refine z_iload_n (q := 140) C 2 rfl rfl dX2_makeOfTwo_139 rfl ?_
                  refine z_callV (q := 143) (n := 3) (As := [.int s, .int (nI 0), .int d]) (rest := []) (wr := [(ht, .inr (4, [.ref ta, .int (nI nl)]))]) C (c_X2_make X.l X.D X.2.1 hr ht sp en rd 9 x y h a F n ov am S hR s (nI 0) d) gX2_makeOfTwo_X2_make rfl rfl rfl (by decide +kernel) (by decide) ⟨by first | decide | omega, by first | decide | omega⟩ 0 2 rfl rfl [0, 2, 3, 4, 5, 6, 7, 8, 9, 10, 11] [1] rfl rfl (by decide) (by decide) (by decide) rfl rfl (Nat.le_of_ble_eq_true rfl) dX2_makeOfTwo_140 rfl (fun v w1 hp => ?_)
                  obtain ⟨F1, n1, o1, hR1, rfl, rfl⟩ := hp
                  show zW X 6 [(ht, .inr (4, [.ref ta, .int (nI nl)])), (hr, .inr (2, [.ref ht, .ref h, .int (nI sp), .int (nI en), .int rd, .int (nI 9), .int x, .int y])), (h, .inr (3, [.ref (a 0), .ref (a 1), .ref (a 2), .ref (a 3), .ref (a 4), .ref (a 5), .ref (a 6), .ref (a 7), .ref (a 8), .int (nI n1), .int (zb o1), .int am])), (a 0, .inl (X.cI, 600, .inl (F1 0))), (a 1, .inl (X.cI, 600, .inl (F1 1))), (a 2, .inl (X.cI, 600, .inl (F1 2))), (a 3, .inl (X.cI, 600, .inl (F1 3))), (a 4, .inl (X.cI, 600, .inl (F1 4))), (a 5, .inl (X.cI, 600, .inl (F1 5))), (a 6, .inl (X.cI, 600, .inl (F1 6))), (a 7, .inl (X.cI, 1024, .inl (F1 7))), (a 8, .inl (X.cZ, 600, .inl (F1 8)))] _ _ 143 _ []
                  refine z_goto (tgt := 174) C dX2_makeOfTwo_143 (by decide) ?_
                  refine z_ws (ws' := [(hr, .inr (2, [.ref ht, .ref h, .int (nI sp), .int (nI en), .int rd, .int (nI 9), .int x, .int y])), (ht, .inr (4, [.ref ta, .int (nI nl)])), (h, .inr (3, [.ref (a 0), .ref (a 1), .ref (a 2), .ref (a 3), .ref (a 4), .ref (a 5), .ref (a 6), .ref (a 7), .ref (a 8), .int (nI n1), .int (zb o1), .int am])), (a 0, .inl (X.cI, 600, .inl (F1 0))), (a 1, .inl (X.cI, 600, .inl (F1 1))), (a 2, .inl (X.cI, 600, .inl (F1 2))), (a 3, .inl (X.cI, 600, .inl (F1 3))), (a 4, .inl (X.cI, 600, .inl (F1 4))), (a 5, .inl (X.cI, 600, .inl (F1 5))), (a 6, .inl (X.cI, 600, .inl (F1 6))), (a 7, .inl (X.cI, 1024, .inl (F1 7))), (a 8, .inl (X.cZ, 600, .inl (F1 8)))]) [1, 0, 2, 3, 4, 5, 6, 7, 8, 9, 10, 11] (by decide) rfl ?_
                  refine z_vret C E (by omega) (by omega) dX2_makeOfTwo_174 ?_
                  refine ⟨F1, n1, o1, ?_, rfl, rfl⟩
                  rw [show twoL nl 9 c d s p o = _ from if_pos ⟨c127, c133⟩]
                  exact hR1
          · exact absurd c85 (by decide)
        · exact absurd c54 (by decide)
      · exact absurd c29 (by decide)
    · exact absurd c5 (by decide)
  · skip
    refine z_aload_n (q := 1) C 0 rfl rfl dX2_makeOfTwo_0 rfl ?_
    refine z_get (q := 4) (v := .int (nI 11)) C hiX2 0 5 rfl rfl (by decide) hf21 rfl dX2_makeOfTwo_1 rfl ?_
    refine z_iconst (q := 5) C k_iconst_2 dX2_makeOfTwo_4 rfl ?_
    refine z_icmp_ne_n (q := 8) (tgt := 24) C (by omega) (by omega) dX2_makeOfTwo_5 (by decide) rfl (fun c5 => ?_) (fun c5 => ?_)
    · skip
      refine z_aload_n (q := 25) C 0 rfl rfl dX2_makeOfTwo_24 rfl ?_
      refine z_get (q := 28) (v := .int (nI 11)) C hiX2 0 5 rfl rfl (by decide) hf21 rfl dX2_makeOfTwo_25 rfl ?_
      refine z_iconst (q := 29) C k_iconst_3 dX2_makeOfTwo_28 rfl ?_
      refine z_icmp_ne_n (q := 32) (tgt := 49) C (by omega) (by omega) dX2_makeOfTwo_29 (by decide) rfl (fun c29 => ?_) (fun c29 => ?_)
      · skip
        refine z_aload_n (q := 50) C 0 rfl rfl dX2_makeOfTwo_49 rfl ?_
        refine z_get (q := 53) (v := .int (nI 11)) C hiX2 0 5 rfl rfl (by decide) hf21 rfl dX2_makeOfTwo_50 rfl ?_
        refine z_iconst (q := 54) C k_iconst_5 dX2_makeOfTwo_53 rfl ?_
        refine z_icmp_ne_n (q := 57) (tgt := 79) C (by omega) (by omega) dX2_makeOfTwo_54 (by decide) rfl (fun c54 => ?_) (fun c54 => ?_)
        · skip
          refine z_aload_n (q := 80) C 0 rfl rfl dX2_makeOfTwo_79 rfl ?_
          refine z_get (q := 83) (v := .int (nI 11)) C hiX2 0 5 rfl rfl (by decide) hf21 rfl dX2_makeOfTwo_80 rfl ?_
          refine z_bipush (q := 85) C k_bipush_7 dX2_makeOfTwo_83 rfl ?_
          refine z_icmp_ne_n (q := 88) (tgt := 116) C (by omega) (by omega) dX2_makeOfTwo_85 (by decide) rfl (fun c85 => ?_) (fun c85 => ?_)
          · skip
            refine z_aload_n (q := 117) C 0 rfl rfl dX2_makeOfTwo_116 rfl ?_
            refine z_get (q := 120) (v := .int (nI 11)) C hiX2 0 5 rfl rfl (by decide) hf21 rfl dX2_makeOfTwo_117 rfl ?_
            refine z_bipush (q := 122) C k_bipush_9 dX2_makeOfTwo_120 rfl ?_
            refine z_icmp_ne_n (q := 125) (tgt := 146) C (by omega) (by omega) dX2_makeOfTwo_122 (by decide) rfl (fun c122 => ?_) (fun c122 => ?_)
            · skip
              refine z_aload_n (q := 147) C 0 rfl rfl dX2_makeOfTwo_146 rfl ?_
              refine z_get (q := 150) (v := .int (nI 11)) C hiX2 0 5 rfl rfl (by decide) hf21 rfl dX2_makeOfTwo_147 rfl ?_
              refine z_bipush (q := 152) C k_bipush_11 dX2_makeOfTwo_150 rfl ?_
              refine z_icmp_ne_n (q := 155) (tgt := 174) C (by omega) (by omega) dX2_makeOfTwo_152 (by decide) rfl (fun c152 => ?_) (fun c152 => ?_)
              · exact absurd c152 (by decide)
              · skip
                refine z_iload (q := 157) C 4 rfl dX2_makeOfTwo_155 rfl ?_
                refine z_iconst (q := 158) C k_iconst_4 dX2_makeOfTwo_157 rfl ?_
                refine z_icmp_ne (q := 161) (tgt := 174) C dX2_makeOfTwo_158 (by decide) rfl (fun c158 => ?_) (fun c158 => ?_)
                · skip
                  refine z_vret C E (by omega) (by omega) dX2_makeOfTwo_174 ?_
                  refine ⟨F, n, ov, ?_, rfl, rfl⟩
                  rw [show twoL nl 11 c d s p o = _ from if_neg (fun z => c158 z.1)]
                  exact hR
                · skip
                  refine z_iload_n (q := 162) C 3 rfl rfl dX2_makeOfTwo_161 rfl ?_
                  refine z_iload_n (q := 163) C 2 rfl rfl dX2_makeOfTwo_162 rfl ?_
                  refine z_icmp_ne (q := 166) (tgt := 174) C dX2_makeOfTwo_163 (by decide) rfl (fun c163 => ?_) (fun c163 => ?_)
                  · skip
                    refine z_vret C E (by omega) (by omega) dX2_makeOfTwo_174 ?_
                    refine ⟨F, n, ov, ?_, rfl, rfl⟩
                    rw [show twoL nl 11 c d s p o = _ from if_neg (fun z => c163 z.2)]
                    exact hR
                  · skip
                    refine z_aload_n (q := 167) C 0 rfl rfl dX2_makeOfTwo_166 rfl ?_
                    refine z_iload_n (q := 168) C 1 rfl rfl dX2_makeOfTwo_167 rfl ?_
                    refine z_iconst (q := 169) C k_iconst_4 dX2_makeOfTwo_168 rfl ?_
                    refine z_iload (q := 171) C 5 rfl dX2_makeOfTwo_169 rfl ?_
                    refine z_callV (q := 174) (n := 3) (As := [.int c, .int (nI 4), .int o]) (rest := []) (wr := [(ht, .inr (4, [.ref ta, .int (nI nl)]))]) C (c_X2_make X.l X.D X.2.1 hr ht sp en rd 11 x y h a F n ov am S hR c (nI 4) o) gX2_makeOfTwo_X2_make rfl rfl rfl (by decide +kernel) (by decide) ⟨by first | decide | omega, by first | decide | omega⟩ 0 2 rfl rfl [0, 2, 3, 4, 5, 6, 7, 8, 9, 10, 11] [1] rfl rfl (by decide) (by decide) (by decide) rfl rfl (Nat.le_of_ble_eq_true rfl) dX2_makeOfTwo_171 rfl (fun v w1 hp => ?_)
                    obtain ⟨F1, n1, o1, hR1, rfl, rfl⟩ := hp
                    show zW X 6 [(ht, .inr (4, [.ref ta, .int (nI nl)])), (hr, .inr (2, [.ref ht, .ref h, .int (nI sp), .int (nI en), .int rd, .int (nI 11), .int x, .int y])), (h, .inr (3, [.ref (a 0), .ref (a 1), .ref (a 2), .ref (a 3), .ref (a 4), .ref (a 5), .ref (a 6), .ref (a 7), .ref (a 8), .int (nI n1), .int (zb o1), .int am])), (a 0, .inl (X.cI, 600, .inl (F1 0))), (a 1, .inl (X.cI, 600, .inl (F1 1))), (a 2, .inl (X.cI, 600, .inl (F1 2))), (a 3, .inl (X.cI, 600, .inl (F1 3))), (a 4, .inl (X.cI, 600, .inl (F1 4))), (a 5, .inl (X.cI, 600, .inl (F1 5))), (a 6, .inl (X.cI, 600, .inl (F1 6))), (a 7, .inl (X.cI, 1024, .inl (F1 7))), (a 8, .inl (X.cZ, 600, .inl (F1 8)))] _ _ 174 _ []
                    refine z_ws (ws' := [(hr, .inr (2, [.ref ht, .ref h, .int (nI sp), .int (nI en), .int rd, .int (nI 11), .int x, .int y])), (ht, .inr (4, [.ref ta, .int (nI nl)])), (h, .inr (3, [.ref (a 0), .ref (a 1), .ref (a 2), .ref (a 3), .ref (a 4), .ref (a 5), .ref (a 6), .ref (a 7), .ref (a 8), .int (nI n1), .int (zb o1), .int am])), (a 0, .inl (X.cI, 600, .inl (F1 0))), (a 1, .inl (X.cI, 600, .inl (F1 1))), (a 2, .inl (X.cI, 600, .inl (F1 2))), (a 3, .inl (X.cI, 600, .inl (F1 3))), (a 4, .inl (X.cI, 600, .inl (F1 4))), (a 5, .inl (X.cI, 600, .inl (F1 5))), (a 6, .inl (X.cI, 600, .inl (F1 6))), (a 7, .inl (X.cI, 1024, .inl (F1 7))), (a 8, .inl (X.cZ, 600, .inl (F1 8)))]) [1, 0, 2, 3, 4, 5, 6, 7, 8, 9, 10, 11] (by decide) rfl ?_
                    refine z_vret C E (by omega) (by omega) dX2_makeOfTwo_174 ?_
                    refine ⟨F1, n1, o1, ?_, rfl, rfl⟩
                    rw [show twoL nl 11 c d s p o = _ from if_pos ⟨c158, c163⟩]
                    exact hR1
            · exact absurd c122 (by decide)
          · exact absurd c85 (by decide)
        · exact absurd c54 (by decide)
      · exact absurd c29 (by decide)
    · exact absurd c5 (by decide)
