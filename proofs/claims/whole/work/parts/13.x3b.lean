theorem rowsRep.le {F : Nat → Nat → Int32} {n : Nat} {ov : Bool} {S : RSt} (h : rowsRep F n ov S) : n ≤ 600 := h.2.1
theorem rowsRep.tab {F : Nat → Nat → Int32} {n : Nat} {ov : Bool} {S : RSt} (h : rowsRep F n ov S) : tabOK F n := h.2.2.2.2.2

set_option maxHeartbeats 4000000 in
set_option maxRecDepth 100000 in
theorem c_X3_addNew (l : Launch) (D : va_G) (g : ClassId × ClassId × ClassId) (h : Nat) (a : Nat → Nat) (F : Nat → Nat → Int32) (n : Nat) (ov : Bool) (am : Int32) (S : RSt) (hR : rowsRep F n ov S) (s p o r f c d : Int32) : zM l yX3_addNew wsX3_addNew ({ frames := 1, cells := 0, slots := 0, locals := 26 } : Room) D g [.ref h, .int s, .int p, .int o, .int r, .int f, .int c, .int d] [(h, .inr (3, [.ref (a 0), .ref (a 1), .ref (a 2), .ref (a 3), .ref (a 4), .ref (a 5), .ref (a 6), .ref (a 7), .ref (a 8), .int (nI n), .int (zb ov), .int am])), (a 0, .inl (g.1, 600, .inl (F 0))), (a 1, .inl (g.1, 600, .inl (F 1))), (a 2, .inl (g.1, 600, .inl (F 2))), (a 3, .inl (g.1, 600, .inl (F 3))), (a 4, .inl (g.1, 600, .inl (F 4))), (a 5, .inl (g.1, 600, .inl (F 5))), (a 6, .inl (g.1, 600, .inl (F 6))), (a 7, .inl (g.1, 1024, .inl (F 7))), (a 8, .inl (g.2.1, 600, .inl (F 8)))] 0 0 (fun v w1 => ∃ (F1 : Nat → Nat → Int32) (n1 : Nat) (o1 : Bool), rowsRep F1 n1 o1 (addR S (mkRow s p o r f c d)) ∧ v = none ∧ w1 = [(h, .inr (3, [.ref (a 0), .ref (a 1), .ref (a 2), .ref (a 3), .ref (a 4), .ref (a 5), .ref (a 6), .ref (a 7), .ref (a 8), .int (nI n1), .int (zb o1), .int am])), (a 0, .inl (g.1, 600, .inl (F1 0))), (a 1, .inl (g.1, 600, .inl (F1 1))), (a 2, .inl (g.1, 600, .inl (F1 2))), (a 3, .inl (g.1, 600, .inl (F1 3))), (a 4, .inl (g.1, 600, .inl (F1 4))), (a 5, .inl (g.1, 600, .inl (F1 5))), (a 6, .inl (g.1, 600, .inl (F1 6))), (a 7, .inl (g.1, 1024, .inl (F1 7))), (a 8, .inl (g.2.1, 600, .inl (F1 8)))]) := by
  refine z_met (cc := cX3_addNew) (maxL := 9) (ret := none) (lv := [(0, .ref h), (1, .int s), (2, .int p), (3, .int o), (4, .int r), (5, .int f), (6, .int c), (7, .int d)]) (by decide) rfl (Nat.le_of_ble_eq_true rfl) rfl ?_
  intro X hXD hXg hXl hnm C E
  subst hXD hXg hXl
  have C : zC X cX3_addNew 9 RX3 wsX3_addNew ({ frames := 1, cells := 0, slots := 0, locals := 26 } : Room) := C
  have hiX3 : ∀ w ∈ u_ws RX3 TX3 12, w ∈ wsX3_addNew := by decide +kernel
  have hf9 : Cond.fieldLink RX3 9 "RdfsRules$Rows" "subjects" "[I" ∈ wsX3_addNew := by decide +kernel
  have hf15 : Cond.fieldLink RX3 15 "RdfsRules$Rows" "properties" "[I" ∈ wsX3_addNew := by decide +kernel
  have hf18 : Cond.fieldLink RX3 18 "RdfsRules$Rows" "objects" "[I" ∈ wsX3_addNew := by decide +kernel
  have hf21 : Cond.fieldLink RX3 21 "RdfsRules$Rows" "rules" "[I" ∈ wsX3_addNew := by decide +kernel
  have hf24 : Cond.fieldLink RX3 24 "RdfsRules$Rows" "firsts" "[I" ∈ wsX3_addNew := by decide +kernel
  have hf27 : Cond.fieldLink RX3 27 "RdfsRules$Rows" "seconds" "[I" ∈ wsX3_addNew := by decide +kernel
  have hf30 : Cond.fieldLink RX3 30 "RdfsRules$Rows" "rounds" "[I" ∈ wsX3_addNew := by decide +kernel
  have hf33 : Cond.fieldLink RX3 33 "RdfsRules$Rows" "rowAtSlot" "[I" ∈ wsX3_addNew := by decide +kernel
  have hf40 : Cond.fieldLink RX3 40 "RdfsRules$Rows" "size" "I" ∈ wsX3_addNew := by decide +kernel
  have hf44 : Cond.fieldLink RX3 44 "RdfsRules$Rows" "overfull" "Z" ∈ wsX3_addNew := by decide +kernel
  have hn6 := hR.le
  refine z_aload_n (q := 1) C 0 rfl rfl dX3_addNew_0 rfl ?_
  refine z_iload_n (q := 2) C 1 rfl rfl dX3_addNew_1 rfl ?_
  refine z_iload_n (q := 3) C 2 rfl rfl dX3_addNew_2 rfl ?_
  refine z_iload_n (q := 4) C 3 rfl rfl dX3_addNew_3 rfl ?_
  refine z_callV (q := 7) (n := 3) (As := [.int s, .int p, .int o]) (rest := []) (wr := []) C (c_X3_slotOf X.l X.D X.2.1 h a F n (zb ov) am s p o (hR.tab.bd hR.le) (hR.tab.free hR.le _)) gX3_addNew_X3_slotOf rfl rfl rfl (by decide +kernel) (by decide) ⟨by first | decide | omega, by first | decide | omega⟩ 0 3 rfl rfl [0, 1, 2, 3, 4, 5, 6, 7, 8, 9] [] rfl rfl (by decide) (by decide) (by decide) rfl rfl (Nat.le_of_ble_eq_true rfl) dX3_addNew_4 rfl (fun v w1 hp => ?_)
  obtain ⟨d0, hd0, hgo, hend, rfl, rfl⟩ := hp
  show zW X 9 [(h, .inr (3, [.ref (a 0), .ref (a 1), .ref (a 2), .ref (a 3), .ref (a 4), .ref (a 5), .ref (a 6), .ref (a 7), .ref (a 8), .int (nI n), .int (zb ov), .int am])), (a 0, .inl (X.cI, 600, .inl (F 0))), (a 1, .inl (X.cI, 600, .inl (F 1))), (a 2, .inl (X.cI, 600, .inl (F 2))), (a 3, .inl (X.cI, 600, .inl (F 3))), (a 4, .inl (X.cI, 600, .inl (F 4))), (a 5, .inl (X.cI, 600, .inl (F 5))), (a 6, .inl (X.cI, 600, .inl (F 6))), (a 7, .inl (X.cI, 1024, .inl (F 7))), (a 8, .inl (X.cZ, 600, .inl (F 8)))] _ _ 7 _ [.int (nI ((hsh s p o + d0) % 1024))]
  refine z_istore (q := 9) (lv' := [(8, .int (nI ((hsh s p o + d0) % 1024))), (0, .ref h), (1, .int s), (2, .int p), (3, .int o), (4, .int r), (5, .int f), (6, .int c), (7, .int d)]) C dX3_addNew_7 rfl (by decide) rfl ?_
  refine z_aload_n (q := 10) C 1 rfl rfl dX3_addNew_9 rfl ?_
  refine z_get (q := 13) (v := .ref (a 7)) C hiX3 0 7 rfl rfl (by decide) hf33 rfl dX3_addNew_10 rfl ?_
  refine z_iload (q := 15) C 0 rfl dX3_addNew_13 rfl ?_
  refine z_iald (q := 16) C 8 rfl (i := (hsh s p o + d0) % 1024) (by omega) (by decide) dX3_addNew_15 rfl ?_
  refine z_iconst (q := 17) C k_iconst_m1 dX3_addNew_16 rfl ?_
  refine z_icmp_eq (q := 20) (tgt := 21) C dX3_addNew_17 (by decide) rfl (fun c17 => ?_) (fun c17 => ?_)
  · skip
    refine z_aload_n (q := 22) C 1 rfl rfl dX3_addNew_21 rfl ?_
    refine z_get (q := 25) (v := .int (nI n)) C hiX3 0 9 rfl rfl (by decide) hf40 rfl dX3_addNew_22 rfl ?_
    refine z_sipush (q := 28) C k_sipush_600 dX3_addNew_25 rfl ?_
    refine z_icmp_lt_n (q := 31) (tgt := 37) C (by omega) (by omega) dX3_addNew_28 (by decide) rfl (fun c28 => ?_) (fun c28 => ?_)
    · skip
      refine z_aload_n (q := 38) C 1 rfl rfl dX3_addNew_37 rfl ?_
      refine z_get (q := 41) (v := .ref (a 7)) C hiX3 0 7 rfl rfl (by decide) hf33 rfl dX3_addNew_38 rfl ?_
      refine z_iload (q := 43) C 0 rfl dX3_addNew_41 rfl ?_
      refine z_aload_n (q := 44) C 1 rfl rfl dX3_addNew_43 rfl ?_
      refine z_get (q := 47) (v := .int (nI n)) C hiX3 0 9 rfl rfl (by decide) hf40 rfl dX3_addNew_44 rfl ?_
      refine z_iast (q := 48) (ws' := [(h, .inr (3, [.ref (a 0), .ref (a 1), .ref (a 2), .ref (a 3), .ref (a 4), .ref (a 5), .ref (a 6), .ref (a 7), .ref (a 8), .int (nI n), .int (zb ov), .int am])), (a 0, .inl (X.cI, 600, .inl (F 0))), (a 1, .inl (X.cI, 600, .inl (F 1))), (a 2, .inl (X.cI, 600, .inl (F 2))), (a 3, .inl (X.cI, 600, .inl (F 3))), (a 4, .inl (X.cI, 600, .inl (F 4))), (a 5, .inl (X.cI, 600, .inl (F 5))), (a 6, .inl (X.cI, 600, .inl (F 6))), (a 7, .inl (X.cI, 1024, .inl (upd (F 7) ((hsh s p o + d0) % 1024) (nI n)))), (a 8, .inl (X.cZ, 600, .inl (F 8)))]) C 8 rfl (i := (hsh s p o + d0) % 1024) (by omega) (by decide) dX3_addNew_47 rfl rfl ?_
      refine z_aload_n (q := 49) C 1 rfl rfl dX3_addNew_48 rfl ?_
      refine z_get (q := 52) (v := .ref (a 0)) C hiX3 0 0 rfl rfl (by decide) hf9 rfl dX3_addNew_49 rfl ?_
      refine z_aload_n (q := 53) C 1 rfl rfl dX3_addNew_52 rfl ?_
      refine z_get (q := 56) (v := .int (nI n)) C hiX3 0 9 rfl rfl (by decide) hf40 rfl dX3_addNew_53 rfl ?_
      refine z_iload_n (q := 57) C 2 rfl rfl dX3_addNew_56 rfl ?_
      refine z_iast (q := 58) (ws' := [(h, .inr (3, [.ref (a 0), .ref (a 1), .ref (a 2), .ref (a 3), .ref (a 4), .ref (a 5), .ref (a 6), .ref (a 7), .ref (a 8), .int (nI n), .int (zb ov), .int am])), (a 0, .inl (X.cI, 600, .inl (upd (F 0) n s))), (a 1, .inl (X.cI, 600, .inl (F 1))), (a 2, .inl (X.cI, 600, .inl (F 2))), (a 3, .inl (X.cI, 600, .inl (F 3))), (a 4, .inl (X.cI, 600, .inl (F 4))), (a 5, .inl (X.cI, 600, .inl (F 5))), (a 6, .inl (X.cI, 600, .inl (F 6))), (a 7, .inl (X.cI, 1024, .inl (upd (F 7) ((hsh s p o + d0) % 1024) (nI n)))), (a 8, .inl (X.cZ, 600, .inl (F 8)))]) C 1 rfl (i := n) (by omega) (by decide) dX3_addNew_57 rfl rfl ?_
      refine z_aload_n (q := 59) C 1 rfl rfl dX3_addNew_58 rfl ?_
      refine z_get (q := 62) (v := .ref (a 1)) C hiX3 0 1 rfl rfl (by decide) hf15 rfl dX3_addNew_59 rfl ?_
      refine z_aload_n (q := 63) C 1 rfl rfl dX3_addNew_62 rfl ?_
      refine z_get (q := 66) (v := .int (nI n)) C hiX3 0 9 rfl rfl (by decide) hf40 rfl dX3_addNew_63 rfl ?_
      refine z_iload_n (q := 67) C 3 rfl rfl dX3_addNew_66 rfl ?_
      refine z_iast (q := 68) (ws' := [(h, .inr (3, [.ref (a 0), .ref (a 1), .ref (a 2), .ref (a 3), .ref (a 4), .ref (a 5), .ref (a 6), .ref (a 7), .ref (a 8), .int (nI n), .int (zb ov), .int am])), (a 0, .inl (X.cI, 600, .inl (upd (F 0) n s))), (a 1, .inl (X.cI, 600, .inl (upd (F 1) n p))), (a 2, .inl (X.cI, 600, .inl (F 2))), (a 3, .inl (X.cI, 600, .inl (F 3))), (a 4, .inl (X.cI, 600, .inl (F 4))), (a 5, .inl (X.cI, 600, .inl (F 5))), (a 6, .inl (X.cI, 600, .inl (F 6))), (a 7, .inl (X.cI, 1024, .inl (upd (F 7) ((hsh s p o + d0) % 1024) (nI n)))), (a 8, .inl (X.cZ, 600, .inl (F 8)))]) C 2 rfl (i := n) (by omega) (by decide) dX3_addNew_67 rfl rfl ?_
      refine z_aload_n (q := 69) C 1 rfl rfl dX3_addNew_68 rfl ?_
      refine z_get (q := 72) (v := .ref (a 2)) C hiX3 0 2 rfl rfl (by decide) hf18 rfl dX3_addNew_69 rfl ?_
      refine z_aload_n (q := 73) C 1 rfl rfl dX3_addNew_72 rfl ?_
      refine z_get (q := 76) (v := .int (nI n)) C hiX3 0 9 rfl rfl (by decide) hf40 rfl dX3_addNew_73 rfl ?_
      refine z_iload_n (q := 77) C 4 rfl rfl dX3_addNew_76 rfl ?_
      refine z_iast (q := 78) (ws' := [(h, .inr (3, [.ref (a 0), .ref (a 1), .ref (a 2), .ref (a 3), .ref (a 4), .ref (a 5), .ref (a 6), .ref (a 7), .ref (a 8), .int (nI n), .int (zb ov), .int am])), (a 0, .inl (X.cI, 600, .inl (upd (F 0) n s))), (a 1, .inl (X.cI, 600, .inl (upd (F 1) n p))), (a 2, .inl (X.cI, 600, .inl (upd (F 2) n o))), (a 3, .inl (X.cI, 600, .inl (F 3))), (a 4, .inl (X.cI, 600, .inl (F 4))), (a 5, .inl (X.cI, 600, .inl (F 5))), (a 6, .inl (X.cI, 600, .inl (F 6))), (a 7, .inl (X.cI, 1024, .inl (upd (F 7) ((hsh s p o + d0) % 1024) (nI n)))), (a 8, .inl (X.cZ, 600, .inl (F 8)))]) C 3 rfl (i := n) (by omega) (by decide) dX3_addNew_77 rfl rfl ?_
      refine z_aload_n (q := 79) C 1 rfl rfl dX3_addNew_78 rfl ?_
      refine z_get (q := 82) (v := .ref (a 3)) C hiX3 0 3 rfl rfl (by decide) hf21 rfl dX3_addNew_79 rfl ?_
      refine z_aload_n (q := 83) C 1 rfl rfl dX3_addNew_82 rfl ?_
      refine z_get (q := 86) (v := .int (nI n)) C hiX3 0 9 rfl rfl (by decide) hf40 rfl dX3_addNew_83 rfl ?_
      refine z_iload (q := 88) C 5 rfl dX3_addNew_86 rfl ?_
      refine z_iast (q := 89) (ws' := [(h, .inr (3, [.ref (a 0), .ref (a 1), .ref (a 2), .ref (a 3), .ref (a 4), .ref (a 5), .ref (a 6), .ref (a 7), .ref (a 8), .int (nI n), .int (zb ov), .int am])), (a 0, .inl (X.cI, 600, .inl (upd (F 0) n s))), (a 1, .inl (X.cI, 600, .inl (upd (F 1) n p))), (a 2, .inl (X.cI, 600, .inl (upd (F 2) n o))), (a 3, .inl (X.cI, 600, .inl (upd (F 3) n r))), (a 4, .inl (X.cI, 600, .inl (F 4))), (a 5, .inl (X.cI, 600, .inl (F 5))), (a 6, .inl (X.cI, 600, .inl (F 6))), (a 7, .inl (X.cI, 1024, .inl (upd (F 7) ((hsh s p o + d0) % 1024) (nI n)))), (a 8, .inl (X.cZ, 600, .inl (F 8)))]) C 4 rfl (i := n) (by omega) (by decide) dX3_addNew_88 rfl rfl ?_
      refine z_aload_n (q := 90) C 1 rfl rfl dX3_addNew_89 rfl ?_
      refine z_get (q := 93) (v := .ref (a 4)) C hiX3 0 4 rfl rfl (by decide) hf24 rfl dX3_addNew_90 rfl ?_
      refine z_aload_n (q := 94) C 1 rfl rfl dX3_addNew_93 rfl ?_
      refine z_get (q := 97) (v := .int (nI n)) C hiX3 0 9 rfl rfl (by decide) hf40 rfl dX3_addNew_94 rfl ?_
      refine z_iload (q := 99) C 6 rfl dX3_addNew_97 rfl ?_
      refine z_iast (q := 100) (ws' := [(h, .inr (3, [.ref (a 0), .ref (a 1), .ref (a 2), .ref (a 3), .ref (a 4), .ref (a 5), .ref (a 6), .ref (a 7), .ref (a 8), .int (nI n), .int (zb ov), .int am])), (a 0, .inl (X.cI, 600, .inl (upd (F 0) n s))), (a 1, .inl (X.cI, 600, .inl (upd (F 1) n p))), (a 2, .inl (X.cI, 600, .inl (upd (F 2) n o))), (a 3, .inl (X.cI, 600, .inl (upd (F 3) n r))), (a 4, .inl (X.cI, 600, .inl (upd (F 4) n f))), (a 5, .inl (X.cI, 600, .inl (F 5))), (a 6, .inl (X.cI, 600, .inl (F 6))), (a 7, .inl (X.cI, 1024, .inl (upd (F 7) ((hsh s p o + d0) % 1024) (nI n)))), (a 8, .inl (X.cZ, 600, .inl (F 8)))]) C 5 rfl (i := n) (by omega) (by decide) dX3_addNew_99 rfl rfl ?_
      refine z_aload_n (q := 101) C 1 rfl rfl dX3_addNew_100 rfl ?_
      refine z_get (q := 104) (v := .ref (a 5)) C hiX3 0 5 rfl rfl (by decide) hf27 rfl dX3_addNew_101 rfl ?_
      refine z_aload_n (q := 105) C 1 rfl rfl dX3_addNew_104 rfl ?_
      refine z_get (q := 108) (v := .int (nI n)) C hiX3 0 9 rfl rfl (by decide) hf40 rfl dX3_addNew_105 rfl ?_
      refine z_iload (q := 110) C 7 rfl dX3_addNew_108 rfl ?_
      refine z_iast (q := 111) (ws' := [(h, .inr (3, [.ref (a 0), .ref (a 1), .ref (a 2), .ref (a 3), .ref (a 4), .ref (a 5), .ref (a 6), .ref (a 7), .ref (a 8), .int (nI n), .int (zb ov), .int am])), (a 0, .inl (X.cI, 600, .inl (upd (F 0) n s))), (a 1, .inl (X.cI, 600, .inl (upd (F 1) n p))), (a 2, .inl (X.cI, 600, .inl (upd (F 2) n o))), (a 3, .inl (X.cI, 600, .inl (upd (F 3) n r))), (a 4, .inl (X.cI, 600, .inl (upd (F 4) n f))), (a 5, .inl (X.cI, 600, .inl (upd (F 5) n c))), (a 6, .inl (X.cI, 600, .inl (F 6))), (a 7, .inl (X.cI, 1024, .inl (upd (F 7) ((hsh s p o + d0) % 1024) (nI n)))), (a 8, .inl (X.cZ, 600, .inl (F 8)))]) C 6 rfl (i := n) (by omega) (by decide) dX3_addNew_110 rfl rfl ?_
      refine z_aload_n (q := 112) C 1 rfl rfl dX3_addNew_111 rfl ?_
      refine z_get (q := 115) (v := .ref (a 6)) C hiX3 0 6 rfl rfl (by decide) hf30 rfl dX3_addNew_112 rfl ?_
      refine z_aload_n (q := 116) C 1 rfl rfl dX3_addNew_115 rfl ?_
      refine z_get (q := 119) (v := .int (nI n)) C hiX3 0 9 rfl rfl (by decide) hf40 rfl dX3_addNew_116 rfl ?_
      refine z_iload (q := 121) C 8 rfl dX3_addNew_119 rfl ?_
      refine z_iast (q := 122) (ws' := [(h, .inr (3, [.ref (a 0), .ref (a 1), .ref (a 2), .ref (a 3), .ref (a 4), .ref (a 5), .ref (a 6), .ref (a 7), .ref (a 8), .int (nI n), .int (zb ov), .int am])), (a 0, .inl (X.cI, 600, .inl (upd (F 0) n s))), (a 1, .inl (X.cI, 600, .inl (upd (F 1) n p))), (a 2, .inl (X.cI, 600, .inl (upd (F 2) n o))), (a 3, .inl (X.cI, 600, .inl (upd (F 3) n r))), (a 4, .inl (X.cI, 600, .inl (upd (F 4) n f))), (a 5, .inl (X.cI, 600, .inl (upd (F 5) n c))), (a 6, .inl (X.cI, 600, .inl (upd (F 6) n d))), (a 7, .inl (X.cI, 1024, .inl (upd (F 7) ((hsh s p o + d0) % 1024) (nI n)))), (a 8, .inl (X.cZ, 600, .inl (F 8)))]) C 7 rfl (i := n) (by omega) (by decide) dX3_addNew_121 rfl rfl ?_
      refine z_aload_n (q := 123) C 1 rfl rfl dX3_addNew_122 rfl ?_
      refine z_dup (q := 124) C rfl dX3_addNew_123 rfl ?_
      refine z_get (q := 127) (v := .int (nI n)) C hiX3 0 9 rfl rfl (by decide) hf40 rfl dX3_addNew_124 rfl ?_
      refine z_iconst (q := 128) C k_iconst_1 dX3_addNew_127 rfl ?_
      refine z_iadd (q := 129) C dX3_addNew_128 rfl ?_
      refine z_eqi (y := nI (n + 1)) (nI_add n 1) ?_
      refine z_put (q := 132) (ws' := [(h, .inr (3, [.ref (a 0), .ref (a 1), .ref (a 2), .ref (a 3), .ref (a 4), .ref (a 5), .ref (a 6), .ref (a 7), .ref (a 8), .int (nI (n + 1)), .int (zb ov), .int am])), (a 0, .inl (X.cI, 600, .inl (upd (F 0) n s))), (a 1, .inl (X.cI, 600, .inl (upd (F 1) n p))), (a 2, .inl (X.cI, 600, .inl (upd (F 2) n o))), (a 3, .inl (X.cI, 600, .inl (upd (F 3) n r))), (a 4, .inl (X.cI, 600, .inl (upd (F 4) n f))), (a 5, .inl (X.cI, 600, .inl (upd (F 5) n c))), (a 6, .inl (X.cI, 600, .inl (upd (F 6) n d))), (a 7, .inl (X.cI, 1024, .inl (upd (F 7) ((hsh s p o + d0) % 1024) (nI n)))), (a 8, .inl (X.cZ, 600, .inl (F 8)))]) C hiX3 tyX3_ok nmX3 0 9 rfl rfl (by decide) hf40 rfl rfl rfl (Nat.le_of_ble_eq_true rfl) dX3_addNew_129 rfl rfl ?_
      refine z_vret C E (by omega) (by omega) dX3_addNew_132 ?_
      exact ⟨addF F n ((hsh s p o + d0) % 1024) s p o r f c d, n + 1, ov, hR.add c28 hd0 hgo c17, rfl, rfl⟩
    · skip
      refine z_aload_n (q := 32) C 1 rfl rfl dX3_addNew_31 rfl ?_
      refine z_iconst (q := 33) C k_iconst_1 dX3_addNew_32 rfl ?_
      refine z_put (q := 36) (ws' := [(h, .inr (3, [.ref (a 0), .ref (a 1), .ref (a 2), .ref (a 3), .ref (a 4), .ref (a 5), .ref (a 6), .ref (a 7), .ref (a 8), .int (nI n), .int (nI 1), .int am])), (a 0, .inl (X.cI, 600, .inl (F 0))), (a 1, .inl (X.cI, 600, .inl (F 1))), (a 2, .inl (X.cI, 600, .inl (F 2))), (a 3, .inl (X.cI, 600, .inl (F 3))), (a 4, .inl (X.cI, 600, .inl (F 4))), (a 5, .inl (X.cI, 600, .inl (F 5))), (a 6, .inl (X.cI, 600, .inl (F 6))), (a 7, .inl (X.cI, 1024, .inl (F 7))), (a 8, .inl (X.cZ, 600, .inl (F 8)))]) C hiX3 tyX3_ok nmX3 0 10 rfl rfl (by decide) hf44 rfl (by decide) (by decide) (Nat.le_of_ble_eq_true rfl) dX3_addNew_33 rfl rfl ?_
      refine z_vret C E (by omega) (by omega) dX3_addNew_36 ?_
      exact ⟨F, n, true, hR.full c28 hgo c17, rfl, rfl⟩
  · skip
    refine z_vret C E (by omega) (by omega) dX3_addNew_20 ?_
    rcases hend with he | ⟨j, hj, ej, hm⟩
    · exact absurd he c17
    · exact ⟨F, n, ov, hR.same (by omega) hj ej hm, rfl, rfl⟩

/-- the row of a fact -/
def findR (L : List Row) (s p o : Int32) : Int32 := match L.findIdx? (fun r => r 0 == s && (r 1 == p && r 2 == o)) with
  | some i => nI i
  | none => (-1)
theorem findR_none {L : List Row} {s p o : Int32} (h : ¬ hasF L s p o = true) : findR L s p o = (-1) := by
  unfold findR
  rw [List.findIdx?_eq_none_iff.mpr (fun x hx => by
    refine Bool.eq_false_iff.mpr (fun e => h ?_)
    unfold hasF
    exact List.any_eq_true.mpr ⟨x, hx, e⟩)]
theorem findR_some {L : List Row} {s p o : Int32} {j : Nat} (hj : j < L.length) (h : L.getD j r0 0 = s ∧ L.getD j r0 1 = p ∧ L.getD j r0 2 = o) (hfirst : ∀ i, i < j → ¬ (L.getD i r0 0 = s ∧ L.getD i r0 1 = p ∧ L.getD i r0 2 = o)) : findR L s p o = nI j := by
  unfold findR
  have : L.findIdx? (fun r => r 0 == s && (r 1 == p && r 2 == o)) = some j := by
    rw [List.findIdx?_eq_some_iff_getElem]
    refine ⟨hj, ?_, fun i hi => ?_⟩
    · rw [getD_lt hj] at h
      simp only [Bool.and_eq_true, beq_iff_eq]
      exact h
    · have := hfirst i hi
      rw [getD_lt (by omega)] at this
      exact fun e => this (by simpa only [Bool.and_eq_true, beq_iff_eq] using e)
  rw [this]
theorem rowsRep.find {F : Nat → Nat → Int32} {n d0 : Nat} {ov : Bool} {S : RSt} {s p o : Int32} (h : rowsRep F n ov S) (hd0 : d0 < 1024) (hgo : ∀ e, e < d0 → slotGo F s p o e) (hend : slotEnd F s p o d0) : F 7 ((hsh s p o + d0) % 1024) = findR S.1 s p o := by
  rcases hend with he | ⟨j, hj, ej, hm⟩
  · rw [he, findR_none]
    intro e
    obtain ⟨j, hj, e⟩ := h.has.mp e
    exact h.2.2.2.2.2.none h.2.1 hgo he j hj e
  · have hjn := h.tab.some h.le (by omega) hj ej
    obtain ⟨h1, h2, h3, h4, h5, h6⟩ := h
    rw [ej, findR_some (j := j) (by omega)]
    · rw [← h5 j 0 hjn (by omega), ← h5 j 1 hjn (by omega), ← h5 j 2 hjn (by omega)]
      exact hm
    · intro i hi hc
      rw [← h5 i 0 (by omega) (by omega), ← h5 i 1 (by omega) (by omega), ← h5 i 2 (by omega) (by omega)] at hc
      have := h6.2.2.2 i j (by omega) hjn (hc.1.trans hm.1.symm) (hc.2.1.trans hm.2.1.symm) (hc.2.2.trans hm.2.2.symm)
      omega

set_option maxHeartbeats 4000000 in
set_option maxRecDepth 100000 in
theorem c_X3_rowOf (l : Launch) (D : va_G) (g : ClassId × ClassId × ClassId) (h : Nat) (a : Nat → Nat) (F : Nat → Nat → Int32) (n : Nat) (ov : Bool) (am : Int32) (S : RSt) (hR : rowsRep F n ov S) (s p o : Int32) : zM l yX3_rowOf wsX3_rowOf ({ frames := 1, cells := 0, slots := 0, locals := 26 } : Room) D g [.ref h, .int s, .int p, .int o] [(h, .inr (3, [.ref (a 0), .ref (a 1), .ref (a 2), .ref (a 3), .ref (a 4), .ref (a 5), .ref (a 6), .ref (a 7), .ref (a 8), .int (nI n), .int (zb ov), .int am])), (a 0, .inl (g.1, 600, .inl (F 0))), (a 1, .inl (g.1, 600, .inl (F 1))), (a 2, .inl (g.1, 600, .inl (F 2))), (a 3, .inl (g.1, 600, .inl (F 3))), (a 4, .inl (g.1, 600, .inl (F 4))), (a 5, .inl (g.1, 600, .inl (F 5))), (a 6, .inl (g.1, 600, .inl (F 6))), (a 7, .inl (g.1, 1024, .inl (F 7))), (a 8, .inl (g.2.1, 600, .inl (F 8)))] 0 0 (fun v w1 => v = some (.int (findR S.1 s p o)) ∧ w1 = [(h, .inr (3, [.ref (a 0), .ref (a 1), .ref (a 2), .ref (a 3), .ref (a 4), .ref (a 5), .ref (a 6), .ref (a 7), .ref (a 8), .int (nI n), .int (zb ov), .int am])), (a 0, .inl (g.1, 600, .inl (F 0))), (a 1, .inl (g.1, 600, .inl (F 1))), (a 2, .inl (g.1, 600, .inl (F 2))), (a 3, .inl (g.1, 600, .inl (F 3))), (a 4, .inl (g.1, 600, .inl (F 4))), (a 5, .inl (g.1, 600, .inl (F 5))), (a 6, .inl (g.1, 600, .inl (F 6))), (a 7, .inl (g.1, 1024, .inl (F 7))), (a 8, .inl (g.2.1, 600, .inl (F 8)))]) := by
  refine z_met (cc := cX3_rowOf) (maxL := 4) (ret := (some .int)) (lv := [(0, .ref h), (1, .int s), (2, .int p), (3, .int o)]) (by decide) rfl (Nat.le_of_ble_eq_true rfl) rfl ?_
  intro X hXD hXg hXl hnm C E
  subst hXD hXg hXl
  have C : zC X cX3_rowOf 4 RX3 wsX3_rowOf ({ frames := 1, cells := 0, slots := 0, locals := 26 } : Room) := C
  have hiX3 : ∀ w ∈ u_ws RX3 TX3 12, w ∈ wsX3_rowOf := by decide +kernel
  have hf33 : Cond.fieldLink RX3 33 "RdfsRules$Rows" "rowAtSlot" "[I" ∈ wsX3_rowOf := by decide +kernel
  have hn6 := hR.le
  refine z_aload_n (q := 1) C 0 rfl rfl dX3_rowOf_0 rfl ?_
  refine z_get (q := 4) (v := .ref (a 7)) C hiX3 0 7 rfl rfl (by decide) hf33 rfl dX3_rowOf_1 rfl ?_
  refine z_aload_n (q := 5) C 0 rfl rfl dX3_rowOf_4 rfl ?_
  refine z_iload_n (q := 6) C 1 rfl rfl dX3_rowOf_5 rfl ?_
  refine z_iload_n (q := 7) C 2 rfl rfl dX3_rowOf_6 rfl ?_
  refine z_iload_n (q := 8) C 3 rfl rfl dX3_rowOf_7 rfl ?_
  refine z_callV (q := 11) (n := 3) (As := [.int s, .int p, .int o]) (rest := [.ref (a 7)]) (wr := []) C (c_X3_slotOf X.l X.D X.2.1 h a F n (zb ov) am s p o (hR.tab.bd hR.le) (hR.tab.free hR.le _)) gX3_rowOf_X3_slotOf rfl rfl rfl (by decide +kernel) (by decide) ⟨by first | decide | omega, by first | decide | omega⟩ 0 3 rfl rfl [0, 1, 2, 3, 4, 5, 6, 7, 8, 9] [] rfl rfl (by decide) (by decide) (by decide) rfl rfl (Nat.le_of_ble_eq_true rfl) dX3_rowOf_8 rfl (fun v w1 hp => ?_)
  obtain ⟨d0, hd0, hgo, hend, rfl, rfl⟩ := hp
  show zW X 4 [(h, .inr (3, [.ref (a 0), .ref (a 1), .ref (a 2), .ref (a 3), .ref (a 4), .ref (a 5), .ref (a 6), .ref (a 7), .ref (a 8), .int (nI n), .int (zb ov), .int am])), (a 0, .inl (X.cI, 600, .inl (F 0))), (a 1, .inl (X.cI, 600, .inl (F 1))), (a 2, .inl (X.cI, 600, .inl (F 2))), (a 3, .inl (X.cI, 600, .inl (F 3))), (a 4, .inl (X.cI, 600, .inl (F 4))), (a 5, .inl (X.cI, 600, .inl (F 5))), (a 6, .inl (X.cI, 600, .inl (F 6))), (a 7, .inl (X.cI, 1024, .inl (F 7))), (a 8, .inl (X.cZ, 600, .inl (F 8)))] _ _ 11 _ [.int (nI ((hsh s p o + d0) % 1024)), .ref (a 7)]
  refine z_iald (q := 12) C 8 rfl (i := (hsh s p o + d0) % 1024) (by omega) (by decide) dX3_rowOf_11 rfl ?_
  refine z_iret C E (by omega) (by omega) dX3_rowOf_12 ?_
  exact ⟨by rw [hR.find hd0 hgo hend], rfl⟩

set_option maxHeartbeats 4000000 in
set_option maxRecDepth 100000 in
theorem c_X3_size (l : Launch) (D : va_G) (g : ClassId × ClassId × ClassId) (h : Nat) (a : Nat → Nat) (n : Nat) (ov : Bool) (am : Int32) : zM l yX3_size wsX3_size ({ frames := 0, cells := 0, slots := 0, locals := 0 } : Room) D g [.ref h] [(h, .inr (3, [.ref (a 0), .ref (a 1), .ref (a 2), .ref (a 3), .ref (a 4), .ref (a 5), .ref (a 6), .ref (a 7), .ref (a 8), .int (nI n), .int (zb ov), .int am]))] 0 0 (fun v w1 => v = some (.int (nI n)) ∧ w1 = [(h, .inr (3, [.ref (a 0), .ref (a 1), .ref (a 2), .ref (a 3), .ref (a 4), .ref (a 5), .ref (a 6), .ref (a 7), .ref (a 8), .int (nI n), .int (zb ov), .int am]))]) := by
  refine z_met (cc := cX3_size) (maxL := 1) (ret := (some .int)) (lv := [(0, .ref h)]) (by decide) rfl (Nat.le_of_ble_eq_true rfl) rfl ?_
  intro X hXD hXg hXl hnm C E
  subst hXD hXg hXl
  have C : zC X cX3_size 1 RX3 wsX3_size ({ frames := 0, cells := 0, slots := 0, locals := 0 } : Room) := C
  have hiX3 : ∀ w ∈ u_ws RX3 TX3 12, w ∈ wsX3_size := by decide +kernel
  have hf40 : Cond.fieldLink RX3 40 "RdfsRules$Rows" "size" "I" ∈ wsX3_size := by decide +kernel
  refine z_aload_n (q := 1) C 0 rfl rfl dX3_size_0 rfl ?_
  refine z_get (q := 4) (v := .int (nI n)) C hiX3 0 9 rfl rfl (by decide) hf40 rfl dX3_size_1 rfl ?_
  refine z_iret C E (by omega) (by omega) dX3_size_4 ?_
  exact ⟨rfl, rfl⟩

set_option maxHeartbeats 4000000 in
set_option maxRecDepth 100000 in
theorem c_X3_isOverfull (l : Launch) (D : va_G) (g : ClassId × ClassId × ClassId) (h : Nat) (a : Nat → Nat) (n : Nat) (ov : Bool) (am : Int32) : zM l yX3_isOverfull wsX3_isOverfull ({ frames := 0, cells := 0, slots := 0, locals := 0 } : Room) D g [.ref h] [(h, .inr (3, [.ref (a 0), .ref (a 1), .ref (a 2), .ref (a 3), .ref (a 4), .ref (a 5), .ref (a 6), .ref (a 7), .ref (a 8), .int (nI n), .int (zb ov), .int am]))] 0 0 (fun v w1 => v = some (.int (zb ov)) ∧ w1 = [(h, .inr (3, [.ref (a 0), .ref (a 1), .ref (a 2), .ref (a 3), .ref (a 4), .ref (a 5), .ref (a 6), .ref (a 7), .ref (a 8), .int (nI n), .int (zb ov), .int am]))]) := by
  refine z_met (cc := cX3_isOverfull) (maxL := 1) (ret := (some .boolean)) (lv := [(0, .ref h)]) (by decide) rfl (Nat.le_of_ble_eq_true rfl) rfl ?_
  intro X hXD hXg hXl hnm C E
  subst hXD hXg hXl
  have C : zC X cX3_isOverfull 1 RX3 wsX3_isOverfull ({ frames := 0, cells := 0, slots := 0, locals := 0 } : Room) := C
  have hiX3 : ∀ w ∈ u_ws RX3 TX3 12, w ∈ wsX3_isOverfull := by decide +kernel
  have hf44 : Cond.fieldLink RX3 44 "RdfsRules$Rows" "overfull" "Z" ∈ wsX3_isOverfull := by decide +kernel
  refine z_aload_n (q := 1) C 0 rfl rfl dX3_isOverfull_0 rfl ?_
  refine z_get (q := 4) (v := .int (zb ov)) C hiX3 0 10 rfl rfl (by decide) hf44 rfl dX3_isOverfull_1 rfl ?_
  refine z_zret C E (by omega) (by omega) (zb_nar _) dX3_isOverfull_4 ?_
  exact ⟨rfl, rfl⟩

def rowB (n : Nat) (i : Int32) : Bool := decide (0 ≤ i.toInt ∧ i.toInt < (n : Int))
set_option maxHeartbeats 4000000 in
set_option maxRecDepth 100000 in
theorem c_X3_isRow (l : Launch) (D : va_G) (g : ClassId × ClassId × ClassId) (h : Nat) (a : Nat → Nat) (n : Nat) (hn : n ≤ 600) (ov : Bool) (am : Int32) (i : Int32) : zM l yX3_isRow wsX3_isRow ({ frames := 0, cells := 0, slots := 0, locals := 0 } : Room) D g [.ref h, .int i] [(h, .inr (3, [.ref (a 0), .ref (a 1), .ref (a 2), .ref (a 3), .ref (a 4), .ref (a 5), .ref (a 6), .ref (a 7), .ref (a 8), .int (nI n), .int (zb ov), .int am]))] 0 0 (fun v w1 => v = some (.int (zb (rowB n i))) ∧ w1 = [(h, .inr (3, [.ref (a 0), .ref (a 1), .ref (a 2), .ref (a 3), .ref (a 4), .ref (a 5), .ref (a 6), .ref (a 7), .ref (a 8), .int (nI n), .int (zb ov), .int am]))]) := by
  refine z_met (cc := cX3_isRow) (maxL := 2) (ret := (some .boolean)) (lv := [(0, .ref h), (1, .int i)]) (by decide) rfl (Nat.le_of_ble_eq_true rfl) rfl ?_
  intro X hXD hXg hXl hnm C E
  subst hXD hXg hXl
  have C : zC X cX3_isRow 2 RX3 wsX3_isRow ({ frames := 0, cells := 0, slots := 0, locals := 0 } : Room) := C
  have hiX3 : ∀ w ∈ u_ws RX3 TX3 12, w ∈ wsX3_isRow := by decide +kernel
  have hf40 : Cond.fieldLink RX3 40 "RdfsRules$Rows" "size" "I" ∈ wsX3_isRow := by decide +kernel
  refine z_iload_n (q := 1) C 1 rfl rfl dX3_isRow_0 rfl ?_
  refine z_if_lt_i (q := 4) (tgt := 16) C rfl dX3_isRow_1 (by decide) rfl (fun c1 => ?_) (fun c1 => ?_)
  · skip
    refine z_iconst (q := 17) C k_iconst_0 dX3_isRow_16 rfl ?_
    refine z_zret C E (by omega) (by omega) (by decide) dX3_isRow_17 ?_
    exact ⟨congrArg (fun z => some (Value.int z)) (zb_is0 (decide_eq_false (by omega))), rfl⟩
  · skip
    refine z_iload_n (q := 5) C 1 rfl rfl dX3_isRow_4 rfl ?_
    refine z_aload_n (q := 6) C 0 rfl rfl dX3_isRow_5 rfl ?_
    refine z_get (q := 9) (v := .int (nI n)) C hiX3 0 9 rfl rfl (by decide) hf40 rfl dX3_isRow_6 rfl ?_
    refine z_icmp_ge_i (q := 12) (tgt := 16) C rfl (nI_toInt (n := n) (by omega)) dX3_isRow_9 (by decide) rfl (fun c9 => ?_) (fun c9 => ?_)
    · skip
      refine z_iconst (q := 17) C k_iconst_0 dX3_isRow_16 rfl ?_
      refine z_zret C E (by omega) (by omega) (by decide) dX3_isRow_17 ?_
      exact ⟨congrArg (fun z => some (Value.int z)) (zb_is0 (decide_eq_false (by omega))), rfl⟩
    · skip
      refine z_iconst (q := 13) C k_iconst_1 dX3_isRow_12 rfl ?_
      refine z_goto (tgt := 17) C dX3_isRow_13 (by decide) ?_
      refine z_zret C E (by omega) (by omega) (by decide) dX3_isRow_17 ?_
      exact ⟨congrArg (fun z => some (Value.int z)) (zb_is1 (decide_eq_true (by omega))), rfl⟩
