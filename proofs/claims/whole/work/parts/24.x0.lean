/-! Axioms -/
def memN (mb ak : Bool) (cnt : Nat) : Nat := if ak = true ∧ mb = true then cnt else 0
def axSz (mb ak : Bool) (cnt : Nat) : Nat := if ak = true then 15 + 3 * memN mb ak cnt else 0
def axS (i : Nat) : Int32 := if i < 15 then fixF (3 * i) else nI (20 + (i - 15) / 3)
def axP (i : Nat) : Int32 := if i < 15 then fixF (3 * i + 1) else ofmF ((i - 15) % 3 * 2)
def axO (i : Nat) : Int32 := if i < 15 then fixF (3 * i + 2) else ofmF ((i - 15) % 3 * 2 + 1)
def axN (S : RSt) : Nat → RSt
  | 0 => S
  | i + 1 => addR (axN S i) (mkRow (axS i) (axP i) (axO i) (-2) (-1) (-1) (nI 0))
def axHas (s p o : Int32) : Nat → Bool
  | 0 => false
  | i + 1 => axHas s p o i || decide (axS i = s ∧ axP i = p ∧ axO i = o)
theorem memN_le {mb ak : Bool} {cnt : Nat} (h : cnt ≤ 9) : memN mb ak cnt ≤ 9 := by unfold memN; split <;> omega
theorem axSz_le {mb ak : Bool} {cnt : Nat} (h : cnt ≤ 9) : axSz mb ak cnt ≤ 42 := by
  unfold axSz
  have := memN_le (mb := mb) (ak := ak) h
  split <;> omega
theorem axHas_t {s p o : Int32} {i : Nat} (h : axS i = s ∧ axP i = p ∧ axO i = o) : ∀ m, i < m → axHas s p o m = true := by
  intro m
  induction m with
  | zero => intro h; omega
  | succ m ih =>
    intro hm
    show (axHas s p o m || _) = true
    rcases Nat.lt_succ_iff_lt_or_eq.mp hm with c | c
    · rw [ih c, Bool.true_or]
    · subst c
      rw [decide_eq_true h, Bool.or_true]
theorem axHas_f {s p o : Int32} : ∀ m, (∀ i, i < m → ¬ (axS i = s ∧ axP i = p ∧ axO i = o)) → axHas s p o m = false := by
  intro m
  induction m with
  | zero => intro _; rfl
  | succ m ih =>
    intro h
    show (axHas s p o m || _) = false
    rw [ih (fun i hi => h i (by omega)), decide_eq_false (h m (by omega))]
    rfl

set_option maxHeartbeats 4000000 in
set_option maxRecDepth 100000 in
theorem c_X0_ask (l : Launch) (D : va_G) (g : ClassId × ClassId × ClassId) (hx : Nat) (mb ak : Bool) (cnt : Nat) (b : Bool) : zM l yX0_ask wsX0_ask ({ frames := 0, cells := 0, slots := 0, locals := 0 } : Room) D g [.ref hx, .int (zb b)] [(hx, .inr (0, [.int (zb mb), .int (zb ak), .int (nI cnt)]))] 0 0 (fun v w1 => v = none ∧ w1 = [(hx, .inr (0, [.int (zb mb), .int (zb b), .int (nI cnt)]))]) := by
  refine z_met (cc := cX0_ask) (maxL := 2) (ret := none) (lv := [(0, .ref hx), (1, .int (zb b))]) (by decide) rfl (Nat.le_of_ble_eq_true rfl) rfl ?_
  intro X hXD hXg hXl hnm C E
  subst hXD hXg hXl
  have C : zC X cX0_ask 2 RX0 wsX0_ask ({ frames := 0, cells := 0, slots := 0, locals := 0 } : Room) := C
  have hiX0 : ∀ w ∈ u_ws RX0 TX0 3, w ∈ wsX0_ask := by decide +kernel
  have hf9 : Cond.fieldLink RX0 9 "RdfsRules$Axioms" "asked" "Z" ∈ wsX0_ask := by decide +kernel
  refine z_aload_n (q := 1) C 0 rfl rfl dX0_ask_0 rfl ?_
  refine z_iload_n (q := 2) C 1 rfl rfl dX0_ask_1 rfl ?_
  refine z_put (q := 5) (ws' := [(hx, .inr (0, [.int (zb mb), .int (zb b), .int (nI cnt)]))]) C hiX0 tyX0_ok nmX0 0 1 rfl rfl (by decide) hf9 rfl (zb_nar _) (zb_fit _) (Nat.le_of_ble_eq_true rfl) dX0_ask_2 rfl rfl ?_
  refine z_vret C E (by omega) (by omega) dX0_ask_5 ?_
  exact ⟨rfl, rfl⟩

set_option maxHeartbeats 4000000 in
set_option maxRecDepth 100000 in
theorem c_X0_setCount (l : Launch) (D : va_G) (g : ClassId × ClassId × ClassId) (hx : Nat) (mb ak : Bool) (cnt : Nat) (n : Nat) : zM l yX0_setCount wsX0_setCount ({ frames := 0, cells := 0, slots := 0, locals := 0 } : Room) D g [.ref hx, .int (nI n)] [(hx, .inr (0, [.int (zb mb), .int (zb ak), .int (nI cnt)]))] 0 0 (fun v w1 => v = none ∧ w1 = [(hx, .inr (0, [.int (zb mb), .int (zb ak), .int (nI n)]))]) := by
  refine z_met (cc := cX0_setCount) (maxL := 2) (ret := none) (lv := [(0, .ref hx), (1, .int (nI n))]) (by decide) rfl (Nat.le_of_ble_eq_true rfl) rfl ?_
  intro X hXD hXg hXl hnm C E
  subst hXD hXg hXl
  have C : zC X cX0_setCount 2 RX0 wsX0_setCount ({ frames := 0, cells := 0, slots := 0, locals := 0 } : Room) := C
  have hiX0 : ∀ w ∈ u_ws RX0 TX0 3, w ∈ wsX0_setCount := by decide +kernel
  have hf15 : Cond.fieldLink RX0 15 "RdfsRules$Axioms" "count" "I" ∈ wsX0_setCount := by decide +kernel
  refine z_aload_n (q := 1) C 0 rfl rfl dX0_setCount_0 rfl ?_
  refine z_iload_n (q := 2) C 1 rfl rfl dX0_setCount_1 rfl ?_
  refine z_put (q := 5) (ws' := [(hx, .inr (0, [.int (zb mb), .int (zb ak), .int (nI n)]))]) C hiX0 tyX0_ok nmX0 0 2 rfl rfl (by decide) hf15 rfl rfl rfl (Nat.le_of_ble_eq_true rfl) dX0_setCount_2 rfl rfl ?_
  refine z_vret C E (by omega) (by omega) dX0_setCount_5 ?_
  exact ⟨rfl, rfl⟩

set_option maxHeartbeats 4000000 in
set_option maxRecDepth 100000 in
theorem c_X0_memberships (l : Launch) (D : va_G) (g : ClassId × ClassId × ClassId) (hx : Nat) (mb ak : Bool) (cnt : Nat) : zM l yX0_memberships wsX0_memberships ({ frames := 0, cells := 0, slots := 0, locals := 0 } : Room) D g [.ref hx] [(hx, .inr (0, [.int (zb mb), .int (zb ak), .int (nI cnt)]))] 0 0 (fun v w1 => v = some (.int (nI (memN mb ak cnt))) ∧ w1 = [(hx, .inr (0, [.int (zb mb), .int (zb ak), .int (nI cnt)]))]) := by
  refine z_met (cc := cX0_memberships) (maxL := 1) (ret := (some .int)) (lv := [(0, .ref hx)]) (by decide) rfl (Nat.le_of_ble_eq_true rfl) rfl ?_
  intro X hXD hXg hXl hnm C E
  subst hXD hXg hXl
  have C : zC X cX0_memberships 1 RX0 wsX0_memberships ({ frames := 0, cells := 0, slots := 0, locals := 0 } : Room) := C
  have hiX0 : ∀ w ∈ u_ws RX0 TX0 3, w ∈ wsX0_memberships := by decide +kernel
  have hf9 : Cond.fieldLink RX0 9 "RdfsRules$Axioms" "asked" "Z" ∈ wsX0_memberships := by decide +kernel
  have hf15 : Cond.fieldLink RX0 15 "RdfsRules$Axioms" "count" "I" ∈ wsX0_memberships := by decide +kernel
  have hf19 : Cond.fieldLink RX0 19 "RdfsRules$Axioms" "membershipsBelong" "Z" ∈ wsX0_memberships := by decide +kernel
  refine z_aload_n (q := 1) C 0 rfl rfl dX0_memberships_0 rfl ?_
  refine z_get (q := 4) (v := .int (zb ak)) C hiX0 0 1 rfl rfl (by decide) hf9 rfl dX0_memberships_1 rfl ?_
  refine z_if_eq_b (q := 7) (tgt := 21) C dX0_memberships_4 (by decide) rfl (fun c4 => ?_) (fun c4 => ?_)
  · skip
    refine z_iconst (q := 22) C k_iconst_0 dX0_memberships_21 rfl ?_
    refine z_iret C E (by omega) (by omega) dX0_memberships_22 ?_
    refine ⟨?_, rfl⟩
    rw [show memN mb ak cnt = 0 from if_neg (fun z => by first | (rw [c4] at z; exact absurd z.1 (by decide)) | (rw [c11] at z; exact absurd z.2 (by decide)))]
  · skip
    refine z_aload_n (q := 8) C 0 rfl rfl dX0_memberships_7 rfl ?_
    refine z_get (q := 11) (v := .int (zb mb)) C hiX0 0 0 rfl rfl (by decide) hf19 rfl dX0_memberships_8 rfl ?_
    refine z_if_eq_b (q := 14) (tgt := 21) C dX0_memberships_11 (by decide) rfl (fun c11 => ?_) (fun c11 => ?_)
    · skip
      refine z_iconst (q := 22) C k_iconst_0 dX0_memberships_21 rfl ?_
      refine z_iret C E (by omega) (by omega) dX0_memberships_22 ?_
      refine ⟨?_, rfl⟩
      rw [show memN mb ak cnt = 0 from if_neg (fun z => by first | (rw [c4] at z; exact absurd z.1 (by decide)) | (rw [c11] at z; exact absurd z.2 (by decide)))]
    · skip
      refine z_aload_n (q := 15) C 0 rfl rfl dX0_memberships_14 rfl ?_
      refine z_get (q := 18) (v := .int (nI cnt)) C hiX0 0 2 rfl rfl (by decide) hf15 rfl dX0_memberships_15 rfl ?_
      refine z_goto (tgt := 22) C dX0_memberships_18 (by decide) ?_
      refine z_iret C E (by omega) (by omega) dX0_memberships_22 ?_
      exact ⟨by rw [show memN mb ak cnt = cnt from if_pos ⟨c4, c11⟩], rfl⟩

set_option maxHeartbeats 4000000 in
set_option maxRecDepth 100000 in
theorem c_X0_size (l : Launch) (D : va_G) (g : ClassId × ClassId × ClassId) (hx : Nat) (mb ak : Bool) (cnt : Nat) (hc : cnt ≤ 9) : zM l yX0_size wsX0_size ({ frames := 1, cells := 0, slots := 0, locals := 20 } : Room) D g [.ref hx] [(hx, .inr (0, [.int (zb mb), .int (zb ak), .int (nI cnt)]))] 0 0 (fun v w1 => v = some (.int (nI (axSz mb ak cnt))) ∧ w1 = [(hx, .inr (0, [.int (zb mb), .int (zb ak), .int (nI cnt)]))]) := by
  refine z_met (cc := cX0_size) (maxL := 1) (ret := (some .int)) (lv := [(0, .ref hx)]) (by decide) rfl (Nat.le_of_ble_eq_true rfl) rfl ?_
  intro X hXD hXg hXl hnm C E
  subst hXD hXg hXl
  have C : zC X cX0_size 1 RX0 wsX0_size ({ frames := 1, cells := 0, slots := 0, locals := 20 } : Room) := C
  have hiX0 : ∀ w ∈ u_ws RX0 TX0 3, w ∈ wsX0_size := by decide +kernel
  have hf9 : Cond.fieldLink RX0 9 "RdfsRules$Axioms" "asked" "Z" ∈ wsX0_size := by decide +kernel
  refine z_aload_n (q := 1) C 0 rfl rfl dX0_size_0 rfl ?_
  refine z_get (q := 4) (v := .int (zb ak)) C hiX0 0 1 rfl rfl (by decide) hf9 rfl dX0_size_1 rfl ?_
  refine z_if_eq_b (q := 7) (tgt := 19) C dX0_size_4 (by decide) rfl (fun c4 => ?_) (fun c4 => ?_)
  · skip
    refine z_iconst (q := 20) C k_iconst_0 dX0_size_19 rfl ?_
    refine z_iret C E (by omega) (by omega) dX0_size_20 ?_
    exact ⟨by rw [show axSz mb ak cnt = 0 from if_neg (by rw [c4]; decide)], rfl⟩
  · skip
    refine z_bipush (q := 9) C k_bipush_15 dX0_size_7 rfl ?_
    refine z_iconst (q := 10) C k_iconst_3 dX0_size_9 rfl ?_
    refine z_aload_n (q := 11) C 0 rfl rfl dX0_size_10 rfl ?_
    refine z_callV (q := 14) (n := 0) (As := []) (rest := [.int (nI 3), .int (nI 15)]) (wr := []) C (c_X0_memberships X.l X.D X.2.1 hx mb ak cnt) gX0_size_X0_memberships rfl rfl rfl (by decide +kernel) (by decide) ⟨by first | decide | omega, by first | decide | omega⟩ 0 0 rfl rfl [0] [] rfl rfl (by decide) (by decide) (by decide) rfl rfl (Nat.le_of_ble_eq_true rfl) dX0_size_11 rfl (fun v w1 hp => ?_)
    obtain ⟨rfl, rfl⟩ := hp
    show zW X 1 [(hx, .inr (0, [.int (zb mb), .int (zb ak), .int (nI cnt)]))] _ _ 14 _ [.int (nI (memN mb ak cnt)), .int (nI 3), .int (nI 15)]
    refine z_imul (q := 15) C dX0_size_14 rfl ?_
    refine z_eqi (y := nI (3 * (memN mb ak cnt))) (pk_mul 3 (memN mb ak cnt)) ?_
    refine z_iadd (q := 16) C dX0_size_15 rfl ?_
    refine z_eqi (y := nI (15 + (3 * (memN mb ak cnt)))) (nI_add 15 (3 * (memN mb ak cnt))) ?_
    refine z_goto (tgt := 20) C dX0_size_16 (by decide) ?_
    refine z_iret C E (by omega) (by omega) dX0_size_20 ?_
    exact ⟨by rw [show axSz mb ak cnt = 15 + 3 * memN mb ak cnt from if_pos c4], rfl⟩

set_option maxHeartbeats 4000000 in
set_option maxRecDepth 100000 in
theorem c_X0_subject (l : Launch) (D : va_G) (g : ClassId × ClassId × ClassId) (t : Nat × Nat) (hx : Nat) (mb ak : Bool) (cnt : Nat) (i : Nat) (hi : i < 42) : zMZ t l yX0_subject wsX0_subject ({ frames := 0, cells := 0, slots := 0, locals := 0 } : Room) D g [.ref hx, .int (nI i)] [(hx, .inr (0, [.int (zb mb), .int (zb ak), .int (nI cnt)]))] 0 0 (fun v w1 => v = some (.int (axS i)) ∧ w1 = [(hx, .inr (0, [.int (zb mb), .int (zb ak), .int (nI cnt)]))]) := by
  refine z_metZ (cc := cX0_subject) (maxL := 2) (ret := (some .int)) (lv := [(0, .ref hx), (1, .int (nI i))]) (by decide) rfl (Nat.le_of_ble_eq_true rfl) rfl ?_
  intro X hXD hXg hXl hnm C E hZ
  subst hXD hXg hXl
  have C : zC X cX0_subject 2 RX0 wsX0_subject ({ frames := 0, cells := 0, slots := 0, locals := 0 } : Room) := C
  have hf45 : Cond.fieldLink RX0 45 "RdfsRules$Axioms" "FIXED" "[I" ∈ wsX0_subject := by decide +kernel
  refine z_iload_n (q := 1) C 1 rfl rfl dX0_subject_0 rfl ?_
  refine z_bipush (q := 3) C k_bipush_15 dX0_subject_1 rfl ?_
  refine z_icmp_ge_n (q := 6) (tgt := 16) C (by omega) (by omega) dX0_subject_3 (by decide) rfl (fun c3 => ?_) (fun c3 => ?_)
  · skip
    refine z_bipush (q := 18) C k_bipush_20 dX0_subject_16 rfl ?_
    refine z_iload_n (q := 19) C 1 rfl rfl dX0_subject_18 rfl ?_
    refine z_bipush (q := 21) C k_bipush_15 dX0_subject_19 rfl ?_
    refine z_isub (q := 22) C dX0_subject_21 rfl ?_
    refine z_eqi (y := nI (i - 15)) (pk_sub (a := i) (b := 15) (by omega)) ?_
    refine z_iconst (q := 23) C k_iconst_3 dX0_subject_22 rfl ?_
    refine z_idiv (q := 24) C (by decide) dX0_subject_23 rfl ?_
    refine z_eqi (y := nI ((i - 15) / 3)) (pk_div (a := i - 15) (d := 3) (by omega) (by omega) (by omega)) ?_
    refine z_iadd (q := 25) C dX0_subject_24 rfl ?_
    refine z_eqi (y := nI (20 + ((i - 15) / 3))) (nI_add 20 ((i - 15) / 3)) ?_
    refine z_iret C E (by omega) (by omega) dX0_subject_25 ?_
    exact ⟨by rw [show axS i = _ from if_neg (by omega)], rfl⟩
  · skip
    refine z_getF (q := 9) C hZ hf45 dX0_subject_6 rfl ?_
    refine z_iconst (q := 10) C k_iconst_3 dX0_subject_9 rfl ?_
    refine z_iload_n (q := 11) C 1 rfl rfl dX0_subject_10 rfl ?_
    refine z_imul (q := 12) C dX0_subject_11 rfl ?_
    refine z_eqi (y := nI (3 * i)) (pk_mul 3 i) ?_
    refine z_ldF (q := 13) C hZ (i := 3 * i) (by omega) dX0_subject_12 rfl ?_
    refine z_goto (tgt := 25) C dX0_subject_13 (by decide) ?_
    refine z_iret C E (by omega) (by omega) dX0_subject_25 ?_
    exact ⟨by rw [show axS i = _ from if_pos c3], rfl⟩

set_option maxHeartbeats 4000000 in
set_option maxRecDepth 100000 in
theorem c_X0_property (l : Launch) (D : va_G) (g : ClassId × ClassId × ClassId) (t : Nat × Nat) (hx : Nat) (mb ak : Bool) (cnt : Nat) (i : Nat) (hi : i < 42) : zMZ t l yX0_property wsX0_property ({ frames := 0, cells := 0, slots := 0, locals := 0 } : Room) D g [.ref hx, .int (nI i)] [(hx, .inr (0, [.int (zb mb), .int (zb ak), .int (nI cnt)]))] 0 0 (fun v w1 => v = some (.int (axP i)) ∧ w1 = [(hx, .inr (0, [.int (zb mb), .int (zb ak), .int (nI cnt)]))]) := by
  refine z_metZ (cc := cX0_property) (maxL := 2) (ret := (some .int)) (lv := [(0, .ref hx), (1, .int (nI i))]) (by decide) rfl (Nat.le_of_ble_eq_true rfl) rfl ?_
  intro X hXD hXg hXl hnm C E hZ
  subst hXD hXg hXl
  have C : zC X cX0_property 2 RX0 wsX0_property ({ frames := 0, cells := 0, slots := 0, locals := 0 } : Room) := C
  have hf45 : Cond.fieldLink RX0 45 "RdfsRules$Axioms" "FIXED" "[I" ∈ wsX0_property := by decide +kernel
  have hf49 : Cond.fieldLink RX0 49 "RdfsRules$Axioms" "OF_MEMBERSHIP" "[I" ∈ wsX0_property := by decide +kernel
  refine z_iload_n (q := 1) C 1 rfl rfl dX0_property_0 rfl ?_
  refine z_bipush (q := 3) C k_bipush_15 dX0_property_1 rfl ?_
  refine z_icmp_ge_n (q := 6) (tgt := 18) C (by omega) (by omega) dX0_property_3 (by decide) rfl (fun c3 => ?_) (fun c3 => ?_)
  · skip
    refine z_getO (q := 21) C hZ hf49 dX0_property_18 rfl ?_
    refine z_iload_n (q := 22) C 1 rfl rfl dX0_property_21 rfl ?_
    refine z_bipush (q := 24) C k_bipush_15 dX0_property_22 rfl ?_
    refine z_isub (q := 25) C dX0_property_24 rfl ?_
    refine z_eqi (y := nI (i - 15)) (pk_sub (a := i) (b := 15) (by omega)) ?_
    refine z_iconst (q := 26) C k_iconst_3 dX0_property_25 rfl ?_
    refine z_irem (q := 27) C (by decide) dX0_property_26 rfl ?_
    refine z_eqi (y := nI ((i - 15) % 3)) (pk_rem (a := i - 15) (d := 3) (by omega) (by omega) (by omega)) ?_
    refine z_iconst (q := 28) C k_iconst_2 dX0_property_27 rfl ?_
    refine z_imul (q := 29) C dX0_property_28 rfl ?_
    refine z_eqi (y := nI (((i - 15) % 3) * 2)) (pk_mul ((i - 15) % 3) 2) ?_
    refine z_ldO (q := 30) C hZ (i := ((i - 15) % 3) * 2) (by omega) dX0_property_29 rfl ?_
    refine z_iret C E (by omega) (by omega) dX0_property_30 ?_
    exact ⟨by rw [show axP i = _ from if_neg (by omega)], rfl⟩
  · skip
    refine z_getF (q := 9) C hZ hf45 dX0_property_6 rfl ?_
    refine z_iconst (q := 10) C k_iconst_3 dX0_property_9 rfl ?_
    refine z_iload_n (q := 11) C 1 rfl rfl dX0_property_10 rfl ?_
    refine z_imul (q := 12) C dX0_property_11 rfl ?_
    refine z_eqi (y := nI (3 * i)) (pk_mul 3 i) ?_
    refine z_iconst (q := 13) C k_iconst_1 dX0_property_12 rfl ?_
    refine z_iadd (q := 14) C dX0_property_13 rfl ?_
    refine z_eqi (y := nI ((3 * i) + 1)) (nI_add (3 * i) 1) ?_
    refine z_ldF (q := 15) C hZ (i := (3 * i) + 1) (by omega) dX0_property_14 rfl ?_
    refine z_goto (tgt := 30) C dX0_property_15 (by decide) ?_
    refine z_iret C E (by omega) (by omega) dX0_property_30 ?_
    exact ⟨by rw [show axP i = _ from if_pos c3], rfl⟩

set_option maxHeartbeats 4000000 in
set_option maxRecDepth 100000 in
theorem c_X0_object (l : Launch) (D : va_G) (g : ClassId × ClassId × ClassId) (t : Nat × Nat) (hx : Nat) (mb ak : Bool) (cnt : Nat) (i : Nat) (hi : i < 42) : zMZ t l yX0_object wsX0_object ({ frames := 0, cells := 0, slots := 0, locals := 0 } : Room) D g [.ref hx, .int (nI i)] [(hx, .inr (0, [.int (zb mb), .int (zb ak), .int (nI cnt)]))] 0 0 (fun v w1 => v = some (.int (axO i)) ∧ w1 = [(hx, .inr (0, [.int (zb mb), .int (zb ak), .int (nI cnt)]))]) := by
  refine z_metZ (cc := cX0_object) (maxL := 2) (ret := (some .int)) (lv := [(0, .ref hx), (1, .int (nI i))]) (by decide) rfl (Nat.le_of_ble_eq_true rfl) rfl ?_
  intro X hXD hXg hXl hnm C E hZ
  subst hXD hXg hXl
  have C : zC X cX0_object 2 RX0 wsX0_object ({ frames := 0, cells := 0, slots := 0, locals := 0 } : Room) := C
  have hf45 : Cond.fieldLink RX0 45 "RdfsRules$Axioms" "FIXED" "[I" ∈ wsX0_object := by decide +kernel
  have hf49 : Cond.fieldLink RX0 49 "RdfsRules$Axioms" "OF_MEMBERSHIP" "[I" ∈ wsX0_object := by decide +kernel
  refine z_iload_n (q := 1) C 1 rfl rfl dX0_object_0 rfl ?_
  refine z_bipush (q := 3) C k_bipush_15 dX0_object_1 rfl ?_
  refine z_icmp_ge_n (q := 6) (tgt := 18) C (by omega) (by omega) dX0_object_3 (by decide) rfl (fun c3 => ?_) (fun c3 => ?_)
  · skip
    refine z_getO (q := 21) C hZ hf49 dX0_object_18 rfl ?_
    refine z_iload_n (q := 22) C 1 rfl rfl dX0_object_21 rfl ?_
    refine z_bipush (q := 24) C k_bipush_15 dX0_object_22 rfl ?_
    refine z_isub (q := 25) C dX0_object_24 rfl ?_
    refine z_eqi (y := nI (i - 15)) (pk_sub (a := i) (b := 15) (by omega)) ?_
    refine z_iconst (q := 26) C k_iconst_3 dX0_object_25 rfl ?_
    refine z_irem (q := 27) C (by decide) dX0_object_26 rfl ?_
    refine z_eqi (y := nI ((i - 15) % 3)) (pk_rem (a := i - 15) (d := 3) (by omega) (by omega) (by omega)) ?_
    refine z_iconst (q := 28) C k_iconst_2 dX0_object_27 rfl ?_
    refine z_imul (q := 29) C dX0_object_28 rfl ?_
    refine z_eqi (y := nI (((i - 15) % 3) * 2)) (pk_mul ((i - 15) % 3) 2) ?_
    refine z_iconst (q := 30) C k_iconst_1 dX0_object_29 rfl ?_
    refine z_iadd (q := 31) C dX0_object_30 rfl ?_
    refine z_eqi (y := nI ((((i - 15) % 3) * 2) + 1)) (nI_add (((i - 15) % 3) * 2) 1) ?_
    refine z_ldO (q := 32) C hZ (i := (((i - 15) % 3) * 2) + 1) (by omega) dX0_object_31 rfl ?_
    refine z_iret C E (by omega) (by omega) dX0_object_32 ?_
    exact ⟨by rw [show axO i = _ from if_neg (by omega)], rfl⟩
  · skip
    refine z_getF (q := 9) C hZ hf45 dX0_object_6 rfl ?_
    refine z_iconst (q := 10) C k_iconst_3 dX0_object_9 rfl ?_
    refine z_iload_n (q := 11) C 1 rfl rfl dX0_object_10 rfl ?_
    refine z_imul (q := 12) C dX0_object_11 rfl ?_
    refine z_eqi (y := nI (3 * i)) (pk_mul 3 i) ?_
    refine z_iconst (q := 13) C k_iconst_2 dX0_object_12 rfl ?_
    refine z_iadd (q := 14) C dX0_object_13 rfl ?_
    refine z_eqi (y := nI ((3 * i) + 2)) (nI_add (3 * i) 2) ?_
    refine z_ldF (q := 15) C hZ (i := (3 * i) + 2) (by omega) dX0_object_14 rfl ?_
    refine z_goto (tgt := 32) C dX0_object_15 (by decide) ?_
    refine z_iret C E (by omega) (by omega) dX0_object_32 ?_
    exact ⟨by rw [show axO i = _ from if_pos c3], rfl⟩

set_option maxHeartbeats 4000000 in
set_option maxRecDepth 100000 in
theorem l_X0_contains {X : zX} (hx : Nat) (mb ak : Bool) (cnt : Nat) (hc : cnt ≤ 9) (s p o : Int32) (C : zC X cX0_contains 6 RX0 wsX0_contains ({ frames := 2, cells := 0, slots := 0, locals := 40 } : Room)) (E : zE X (some .boolean) 0 0 (fun v w1 => v = some (.int (zb (axHas s p o (axSz mb ak cnt)))) ∧ w1 = [(hx, .inr (0, [.int (zb mb), .int (zb ak), .int (nI cnt)]))])) {t : Nat × Nat} (hZ : zZ t X.A X.s) : ∀ (m : Nat) (i : Nat), i ≤ axSz mb ak cnt → axSz mb ak cnt < i + m → (∀ e, e < i → ¬ (axS e = s ∧ axP e = p ∧ axO e = o)) → zW X 6 [(hx, .inr (0, [.int (zb mb), .int (zb ak), .int (nI cnt)]))] 0 0 9 [(0, .ref hx), (1, .int s), (2, .int p), (3, .int o), (4, .int (nI (axSz mb ak cnt))), (5, .int (nI i))] [] := by
  intro m
  induction m with
  | zero =>
    intro i hi hm hno
    exfalso
    omega
  | succ m ih =>
    intro i hi hm hno
    have h42 := axSz_le (mb := mb) (ak := ak) hc
    refine z_iload (q := 11) C 5 rfl dX0_contains_9 rfl ?_
    refine z_iload (q := 13) C 4 rfl dX0_contains_11 rfl ?_
    refine z_icmp_ge_n (q := 16) (tgt := 54) C (by omega) (by omega) dX0_contains_13 (by decide) rfl (fun c13 => ?_) (fun c13 => ?_)
    · skip
      refine z_iconst (q := 55) C k_iconst_0 dX0_contains_54 rfl ?_
      refine z_zret C E (by omega) (by omega) (by decide) dX0_contains_55 ?_
      exact ⟨congrArg (fun z => some (Value.int z)) (zb_is0 (axHas_f _ (fun e he => hno e (by omega)))), rfl⟩
    · skip
      refine z_aload_n (q := 17) C 0 rfl rfl dX0_contains_16 rfl ?_
      refine z_iload (q := 19) C 5 rfl dX0_contains_17 rfl ?_
      refine z_callVZ (q := 22) (n := 1) (As := [.int (nI i)]) (rest := []) (wr := []) C hZ (c_X0_subject X.l X.D X.2.1 t hx mb ak cnt i (by omega)) gX0_contains_X0_subject rfl rfl rfl (by decide +kernel) (by decide) ⟨by first | decide | omega, by first | decide | omega⟩ 0 0 rfl rfl [0] [] rfl rfl (by decide) (by decide) (by decide) rfl rfl (Nat.le_of_ble_eq_true rfl) dX0_contains_19 rfl (fun v w1 hp => ?_)
      obtain ⟨rfl, rfl⟩ := hp
      show zW X 6 [(hx, .inr (0, [.int (zb mb), .int (zb ak), .int (nI cnt)]))] _ _ 22 _ [.int (axS i)]
      refine z_iload_n (q := 23) C 1 rfl rfl dX0_contains_22 rfl ?_
      refine z_icmp_ne (q := 26) (tgt := 48) C dX0_contains_23 (by decide) rfl (fun c23 => ?_) (fun c23 => ?_)
      · skip
        refine z_iinc (q := 51) (v := nI (i + 1)) (lv' := [(5, .int (nI (i + 1))), (0, .ref hx), (1, .int s), (2, .int p), (3, .int o), (4, .int (nI (axSz mb ak cnt)))]) C 5 dX0_contains_48 rfl rfl (k_inc1 i) (by decide) rfl ?_
        refine z_goto (tgt := 9) C dX0_contains_51 (by decide) ?_
        refine z_lv [1, 2, 3, 4, 5, 0] rfl ?_
        exact ih (i + 1) (by omega) (by omega) (fun e he => by rcases Nat.lt_succ_iff_lt_or_eq.mp he with h1 | h1; exact hno e h1; subst h1; exact fun z => c23 z.1)
      · skip
        refine z_aload_n (q := 27) C 0 rfl rfl dX0_contains_26 rfl ?_
        refine z_iload (q := 29) C 5 rfl dX0_contains_27 rfl ?_
        refine z_callVZ (q := 32) (n := 1) (As := [.int (nI i)]) (rest := []) (wr := []) C hZ (c_X0_property X.l X.D X.2.1 t hx mb ak cnt i (by omega)) gX0_contains_X0_property rfl rfl rfl (by decide +kernel) (by decide) ⟨by first | decide | omega, by first | decide | omega⟩ 0 0 rfl rfl [0] [] rfl rfl (by decide) (by decide) (by decide) rfl rfl (Nat.le_of_ble_eq_true rfl) dX0_contains_29 rfl (fun v w1 hp => ?_)
        obtain ⟨rfl, rfl⟩ := hp
        show zW X 6 [(hx, .inr (0, [.int (zb mb), .int (zb ak), .int (nI cnt)]))] _ _ 32 _ [.int (axP i)]
        refine z_iload_n (q := 33) C 2 rfl rfl dX0_contains_32 rfl ?_
        refine z_icmp_ne (q := 36) (tgt := 48) C dX0_contains_33 (by decide) rfl (fun c33 => ?_) (fun c33 => ?_)
        · skip
          refine z_iinc (q := 51) (v := nI (i + 1)) (lv' := [(5, .int (nI (i + 1))), (0, .ref hx), (1, .int s), (2, .int p), (3, .int o), (4, .int (nI (axSz mb ak cnt)))]) C 5 dX0_contains_48 rfl rfl (k_inc1 i) (by decide) rfl ?_
          refine z_goto (tgt := 9) C dX0_contains_51 (by decide) ?_
          refine z_lv [1, 2, 3, 4, 5, 0] rfl ?_
          exact ih (i + 1) (by omega) (by omega) (fun e he => by rcases Nat.lt_succ_iff_lt_or_eq.mp he with h1 | h1; exact hno e h1; subst h1; exact fun z => c33 z.2.1)
        · skip
          refine z_aload_n (q := 37) C 0 rfl rfl dX0_contains_36 rfl ?_
          refine z_iload (q := 39) C 5 rfl dX0_contains_37 rfl ?_
          refine z_callVZ (q := 42) (n := 1) (As := [.int (nI i)]) (rest := []) (wr := []) C hZ (c_X0_object X.l X.D X.2.1 t hx mb ak cnt i (by omega)) gX0_contains_X0_object rfl rfl rfl (by decide +kernel) (by decide) ⟨by first | decide | omega, by first | decide | omega⟩ 0 0 rfl rfl [0] [] rfl rfl (by decide) (by decide) (by decide) rfl rfl (Nat.le_of_ble_eq_true rfl) dX0_contains_39 rfl (fun v w1 hp => ?_)
          obtain ⟨rfl, rfl⟩ := hp
          show zW X 6 [(hx, .inr (0, [.int (zb mb), .int (zb ak), .int (nI cnt)]))] _ _ 42 _ [.int (axO i)]
          refine z_iload_n (q := 43) C 3 rfl rfl dX0_contains_42 rfl ?_
          refine z_icmp_ne (q := 46) (tgt := 48) C dX0_contains_43 (by decide) rfl (fun c43 => ?_) (fun c43 => ?_)
          · skip
            refine z_iinc (q := 51) (v := nI (i + 1)) (lv' := [(5, .int (nI (i + 1))), (0, .ref hx), (1, .int s), (2, .int p), (3, .int o), (4, .int (nI (axSz mb ak cnt)))]) C 5 dX0_contains_48 rfl rfl (k_inc1 i) (by decide) rfl ?_
            refine z_goto (tgt := 9) C dX0_contains_51 (by decide) ?_
            refine z_lv [1, 2, 3, 4, 5, 0] rfl ?_
            exact ih (i + 1) (by omega) (by omega) (fun e he => by rcases Nat.lt_succ_iff_lt_or_eq.mp he with h1 | h1; exact hno e h1; subst h1; exact fun z => c43 z.2.2)
          · skip
            refine z_iconst (q := 47) C k_iconst_1 dX0_contains_46 rfl ?_
            refine z_zret C E (by omega) (by omega) (by decide) dX0_contains_47 ?_
            exact ⟨congrArg (fun z => some (Value.int z)) (zb_is1 (axHas_t ⟨c23, c33, c43⟩ _ (by omega))), rfl⟩

set_option maxHeartbeats 4000000 in
set_option maxRecDepth 100000 in
theorem c_X0_contains (l : Launch) (D : va_G) (g : ClassId × ClassId × ClassId) (t : Nat × Nat) (hx : Nat) (mb ak : Bool) (cnt : Nat) (hc : cnt ≤ 9) (s p o : Int32) : zMZ t l yX0_contains wsX0_contains ({ frames := 2, cells := 0, slots := 0, locals := 40 } : Room) D g [.ref hx, .int s, .int p, .int o] [(hx, .inr (0, [.int (zb mb), .int (zb ak), .int (nI cnt)]))] 0 0 (fun v w1 => v = some (.int (zb (axHas s p o (axSz mb ak cnt)))) ∧ w1 = [(hx, .inr (0, [.int (zb mb), .int (zb ak), .int (nI cnt)]))]) := by
  refine z_metZ (cc := cX0_contains) (maxL := 6) (ret := (some .boolean)) (lv := [(0, .ref hx), (1, .int s), (2, .int p), (3, .int o)]) (by decide) rfl (Nat.le_of_ble_eq_true rfl) rfl ?_
  intro X hXD hXg hXl hnm C E hZ
  subst hXD hXg hXl
  have C : zC X cX0_contains 6 RX0 wsX0_contains ({ frames := 2, cells := 0, slots := 0, locals := 40 } : Room) := C
  refine z_aload_n (q := 1) C 0 rfl rfl dX0_contains_0 rfl ?_
  refine z_callV (q := 4) (n := 0) (As := []) (rest := []) (wr := []) C (c_X0_size X.l X.D X.2.1 hx mb ak cnt hc) gX0_contains_X0_size rfl rfl rfl (by decide +kernel) (by decide) ⟨by first | decide | omega, by first | decide | omega⟩ 0 0 rfl rfl [0] [] rfl rfl (by decide) (by decide) (by decide) rfl rfl (Nat.le_of_ble_eq_true rfl) dX0_contains_1 rfl (fun v w1 hp => ?_)
  obtain ⟨rfl, rfl⟩ := hp
  show zW X 6 [(hx, .inr (0, [.int (zb mb), .int (zb ak), .int (nI cnt)]))] _ _ 4 _ [.int (nI (axSz mb ak cnt))]
  refine z_istore (q := 6) (lv' := [(4, .int (nI (axSz mb ak cnt))), (0, .ref hx), (1, .int s), (2, .int p), (3, .int o)]) C dX0_contains_4 rfl (by decide) rfl ?_
  refine z_iconst (q := 7) C k_iconst_0 dX0_contains_6 rfl ?_
  refine z_istore (q := 9) (lv' := [(5, .int (nI 0)), (4, .int (nI (axSz mb ak cnt))), (0, .ref hx), (1, .int s), (2, .int p), (3, .int o)]) C dX0_contains_7 rfl (by decide) rfl ?_
  refine z_lv [2, 3, 4, 5, 1, 0] rfl ?_
  exact l_X0_contains hx mb ak cnt hc s p o C E hZ (axSz mb ak cnt + 1) 0 (by omega) (by omega) (fun e he => absurd he (Nat.not_lt_zero e))

set_option maxHeartbeats 4000000 in
set_option maxRecDepth 100000 in
theorem l_X0_appendTo {X : zX} (hx : Nat) (mb ak : Bool) (cnt : Nat) (hc : cnt ≤ 9) (h : Nat) (a : Nat → Nat) (am : Int32) (S : RSt) (C : zC X cX0_appendTo 4 RX0 wsX0_appendTo ({ frames := 2, cells := 0, slots := 0, locals := 54 } : Room)) (E : zE X none 0 0 (fun v w1 => ∃ (F1 : Nat → Nat → Int32) (n1 : Nat) (o1 : Bool), rowsRep F1 n1 o1 (axN S (axSz mb ak cnt)) ∧ v = none ∧ w1 = [(hx, .inr (0, [.int (zb mb), .int (zb ak), .int (nI cnt)])), (h, .inr (3, [.ref (a 0), .ref (a 1), .ref (a 2), .ref (a 3), .ref (a 4), .ref (a 5), .ref (a 6), .ref (a 7), .ref (a 8), .int (nI n1), .int (zb o1), .int am])), (a 0, .inl (X.cI, 600, .inl (F1 0))), (a 1, .inl (X.cI, 600, .inl (F1 1))), (a 2, .inl (X.cI, 600, .inl (F1 2))), (a 3, .inl (X.cI, 600, .inl (F1 3))), (a 4, .inl (X.cI, 600, .inl (F1 4))), (a 5, .inl (X.cI, 600, .inl (F1 5))), (a 6, .inl (X.cI, 600, .inl (F1 6))), (a 7, .inl (X.cI, 1024, .inl (F1 7))), (a 8, .inl (X.cZ, 600, .inl (F1 8)))])) {t : Nat × Nat} (hZ : zZ t X.A X.s) : ∀ (m : Nat) (i : Nat) (F : Nat → Nat → Int32) (n : Nat) (ov : Bool), i ≤ axSz mb ak cnt → axSz mb ak cnt < i + m → rowsRep F n ov (axN S i) → zW X 4 [(hx, .inr (0, [.int (zb mb), .int (zb ak), .int (nI cnt)])), (h, .inr (3, [.ref (a 0), .ref (a 1), .ref (a 2), .ref (a 3), .ref (a 4), .ref (a 5), .ref (a 6), .ref (a 7), .ref (a 8), .int (nI n), .int (zb ov), .int am])), (a 0, .inl (X.cI, 600, .inl (F 0))), (a 1, .inl (X.cI, 600, .inl (F 1))), (a 2, .inl (X.cI, 600, .inl (F 2))), (a 3, .inl (X.cI, 600, .inl (F 3))), (a 4, .inl (X.cI, 600, .inl (F 4))), (a 5, .inl (X.cI, 600, .inl (F 5))), (a 6, .inl (X.cI, 600, .inl (F 6))), (a 7, .inl (X.cI, 1024, .inl (F 7))), (a 8, .inl (X.cZ, 600, .inl (F 8)))] 0 0 7 [(0, .ref hx), (1, .ref h), (2, .int (nI (axSz mb ak cnt))), (3, .int (nI i))] [] := by
  intro m
  induction m with
  | zero =>
    intro i F n ov hi hm hR
    exfalso
    omega
  | succ m ih =>
    intro i F n ov hi hm hR
    have h42 := axSz_le (mb := mb) (ak := ak) hc
    refine z_iload_n (q := 8) C 3 rfl rfl dX0_appendTo_7 rfl ?_
    refine z_iload_n (q := 9) C 2 rfl rfl dX0_appendTo_8 rfl ?_
    refine z_icmp_ge_n (q := 12) (tgt := 42) C (by omega) (by omega) dX0_appendTo_9 (by decide) rfl (fun c9 => ?_) (fun c9 => ?_)
    · skip
      refine z_vret C E (by omega) (by omega) dX0_appendTo_42 ?_
      obtain he : i = axSz mb ak cnt := by omega
      rw [he] at hR
      exact ⟨F, n, ov, hR, rfl, rfl⟩
    · skip
      refine z_aload_n (q := 13) C 1 rfl rfl dX0_appendTo_12 rfl ?_
      refine z_aload_n (q := 14) C 0 rfl rfl dX0_appendTo_13 rfl ?_
      refine z_iload_n (q := 15) C 3 rfl rfl dX0_appendTo_14 rfl ?_
      refine z_callVZ (q := 18) (n := 1) (As := [.int (nI i)]) (rest := [.ref h]) (wr := [(h, .inr (3, [.ref (a 0), .ref (a 1), .ref (a 2), .ref (a 3), .ref (a 4), .ref (a 5), .ref (a 6), .ref (a 7), .ref (a 8), .int (nI n), .int (zb ov), .int am])), (a 0, .inl (X.cI, 600, .inl (F 0))), (a 1, .inl (X.cI, 600, .inl (F 1))), (a 2, .inl (X.cI, 600, .inl (F 2))), (a 3, .inl (X.cI, 600, .inl (F 3))), (a 4, .inl (X.cI, 600, .inl (F 4))), (a 5, .inl (X.cI, 600, .inl (F 5))), (a 6, .inl (X.cI, 600, .inl (F 6))), (a 7, .inl (X.cI, 1024, .inl (F 7))), (a 8, .inl (X.cZ, 600, .inl (F 8)))]) C hZ (c_X0_subject X.l X.D X.2.1 t hx mb ak cnt i (by omega)) gX0_appendTo_X0_subject rfl rfl rfl (by decide +kernel) (by decide) ⟨by first | decide | omega, by first | decide | omega⟩ 0 0 rfl rfl [0] [1, 2, 3, 4, 5, 6, 7, 8, 9, 10] rfl rfl (by decide) (by decide) (by decide) rfl rfl (Nat.le_of_ble_eq_true rfl) dX0_appendTo_15 rfl (fun v w1 hp => ?_)
      obtain ⟨rfl, rfl⟩ := hp
      show zW X 4 [(h, .inr (3, [.ref (a 0), .ref (a 1), .ref (a 2), .ref (a 3), .ref (a 4), .ref (a 5), .ref (a 6), .ref (a 7), .ref (a 8), .int (nI n), .int (zb ov), .int am])), (a 0, .inl (X.cI, 600, .inl (F 0))), (a 1, .inl (X.cI, 600, .inl (F 1))), (a 2, .inl (X.cI, 600, .inl (F 2))), (a 3, .inl (X.cI, 600, .inl (F 3))), (a 4, .inl (X.cI, 600, .inl (F 4))), (a 5, .inl (X.cI, 600, .inl (F 5))), (a 6, .inl (X.cI, 600, .inl (F 6))), (a 7, .inl (X.cI, 1024, .inl (F 7))), (a 8, .inl (X.cZ, 600, .inl (F 8))), (hx, .inr (0, [.int (zb mb), .int (zb ak), .int (nI cnt)]))] _ _ 18 _ [.int (axS i), .ref h]
      refine z_aload_n (q := 19) C 0 rfl rfl dX0_appendTo_18 rfl ?_
      refine z_iload_n (q := 20) C 3 rfl rfl dX0_appendTo_19 rfl ?_
      refine z_callVZ (q := 23) (n := 1) (As := [.int (nI i)]) (rest := [.int (axS i), .ref h]) (wr := [(h, .inr (3, [.ref (a 0), .ref (a 1), .ref (a 2), .ref (a 3), .ref (a 4), .ref (a 5), .ref (a 6), .ref (a 7), .ref (a 8), .int (nI n), .int (zb ov), .int am])), (a 0, .inl (X.cI, 600, .inl (F 0))), (a 1, .inl (X.cI, 600, .inl (F 1))), (a 2, .inl (X.cI, 600, .inl (F 2))), (a 3, .inl (X.cI, 600, .inl (F 3))), (a 4, .inl (X.cI, 600, .inl (F 4))), (a 5, .inl (X.cI, 600, .inl (F 5))), (a 6, .inl (X.cI, 600, .inl (F 6))), (a 7, .inl (X.cI, 1024, .inl (F 7))), (a 8, .inl (X.cZ, 600, .inl (F 8)))]) C hZ (c_X0_property X.l X.D X.2.1 t hx mb ak cnt i (by omega)) gX0_appendTo_X0_property rfl rfl rfl (by decide +kernel) (by decide) ⟨by first | decide | omega, by first | decide | omega⟩ 0 0 rfl rfl [10] [0, 1, 2, 3, 4, 5, 6, 7, 8, 9] rfl rfl (by decide) (by decide) (by decide) rfl rfl (Nat.le_of_ble_eq_true rfl) dX0_appendTo_20 rfl (fun v w1 hp => ?_)
      obtain ⟨rfl, rfl⟩ := hp
      show zW X 4 [(h, .inr (3, [.ref (a 0), .ref (a 1), .ref (a 2), .ref (a 3), .ref (a 4), .ref (a 5), .ref (a 6), .ref (a 7), .ref (a 8), .int (nI n), .int (zb ov), .int am])), (a 0, .inl (X.cI, 600, .inl (F 0))), (a 1, .inl (X.cI, 600, .inl (F 1))), (a 2, .inl (X.cI, 600, .inl (F 2))), (a 3, .inl (X.cI, 600, .inl (F 3))), (a 4, .inl (X.cI, 600, .inl (F 4))), (a 5, .inl (X.cI, 600, .inl (F 5))), (a 6, .inl (X.cI, 600, .inl (F 6))), (a 7, .inl (X.cI, 1024, .inl (F 7))), (a 8, .inl (X.cZ, 600, .inl (F 8))), (hx, .inr (0, [.int (zb mb), .int (zb ak), .int (nI cnt)]))] _ _ 23 _ [.int (axP i), .int (axS i), .ref h]
      refine z_aload_n (q := 24) C 0 rfl rfl dX0_appendTo_23 rfl ?_
      refine z_iload_n (q := 25) C 3 rfl rfl dX0_appendTo_24 rfl ?_
      refine z_callVZ (q := 28) (n := 1) (As := [.int (nI i)]) (rest := [.int (axP i), .int (axS i), .ref h]) (wr := [(h, .inr (3, [.ref (a 0), .ref (a 1), .ref (a 2), .ref (a 3), .ref (a 4), .ref (a 5), .ref (a 6), .ref (a 7), .ref (a 8), .int (nI n), .int (zb ov), .int am])), (a 0, .inl (X.cI, 600, .inl (F 0))), (a 1, .inl (X.cI, 600, .inl (F 1))), (a 2, .inl (X.cI, 600, .inl (F 2))), (a 3, .inl (X.cI, 600, .inl (F 3))), (a 4, .inl (X.cI, 600, .inl (F 4))), (a 5, .inl (X.cI, 600, .inl (F 5))), (a 6, .inl (X.cI, 600, .inl (F 6))), (a 7, .inl (X.cI, 1024, .inl (F 7))), (a 8, .inl (X.cZ, 600, .inl (F 8)))]) C hZ (c_X0_object X.l X.D X.2.1 t hx mb ak cnt i (by omega)) gX0_appendTo_X0_object rfl rfl rfl (by decide +kernel) (by decide) ⟨by first | decide | omega, by first | decide | omega⟩ 0 0 rfl rfl [10] [0, 1, 2, 3, 4, 5, 6, 7, 8, 9] rfl rfl (by decide) (by decide) (by decide) rfl rfl (Nat.le_of_ble_eq_true rfl) dX0_appendTo_25 rfl (fun v w1 hp => ?_)
      obtain ⟨rfl, rfl⟩ := hp
      show zW X 4 [(h, .inr (3, [.ref (a 0), .ref (a 1), .ref (a 2), .ref (a 3), .ref (a 4), .ref (a 5), .ref (a 6), .ref (a 7), .ref (a 8), .int (nI n), .int (zb ov), .int am])), (a 0, .inl (X.cI, 600, .inl (F 0))), (a 1, .inl (X.cI, 600, .inl (F 1))), (a 2, .inl (X.cI, 600, .inl (F 2))), (a 3, .inl (X.cI, 600, .inl (F 3))), (a 4, .inl (X.cI, 600, .inl (F 4))), (a 5, .inl (X.cI, 600, .inl (F 5))), (a 6, .inl (X.cI, 600, .inl (F 6))), (a 7, .inl (X.cI, 1024, .inl (F 7))), (a 8, .inl (X.cZ, 600, .inl (F 8))), (hx, .inr (0, [.int (zb mb), .int (zb ak), .int (nI cnt)]))] _ _ 28 _ [.int (axO i), .int (axP i), .int (axS i), .ref h]
      refine z_bipush (q := 30) C k_bipush_m2 dX0_appendTo_28 rfl ?_
      refine z_iconst (q := 31) C k_iconst_m1 dX0_appendTo_30 rfl ?_
      refine z_iconst (q := 32) C k_iconst_m1 dX0_appendTo_31 rfl ?_
      refine z_iconst (q := 33) C k_iconst_0 dX0_appendTo_32 rfl ?_
      refine z_callV (q := 36) (n := 7) (As := [.int (axS i), .int (axP i), .int (axO i), .int (-2), .int (-1), .int (-1), .int (nI 0)]) (rest := []) (wr := [(hx, .inr (0, [.int (zb mb), .int (zb ak), .int (nI cnt)]))]) C (c_X3_addNew X.l X.D X.2.1 h a F n ov am (axN S i) hR (axS i) (axP i) (axO i) (-2) (-1) (-1) (nI 0)) gX0_appendTo_X3_addNew rfl rfl rfl (by decide +kernel) (by decide) ⟨by first | decide | omega, by first | decide | omega⟩ 0 3 rfl rfl [0, 1, 2, 3, 4, 5, 6, 7, 8, 9] [10] rfl rfl (by decide) (by decide) (by decide) rfl rfl (Nat.le_of_ble_eq_true rfl) dX0_appendTo_33 rfl (fun v w1 hp => ?_)
      obtain ⟨F1, n1, o1, hR1, rfl, rfl⟩ := hp
      show zW X 4 [(hx, .inr (0, [.int (zb mb), .int (zb ak), .int (nI cnt)])), (h, .inr (3, [.ref (a 0), .ref (a 1), .ref (a 2), .ref (a 3), .ref (a 4), .ref (a 5), .ref (a 6), .ref (a 7), .ref (a 8), .int (nI n1), .int (zb o1), .int am])), (a 0, .inl (X.cI, 600, .inl (F1 0))), (a 1, .inl (X.cI, 600, .inl (F1 1))), (a 2, .inl (X.cI, 600, .inl (F1 2))), (a 3, .inl (X.cI, 600, .inl (F1 3))), (a 4, .inl (X.cI, 600, .inl (F1 4))), (a 5, .inl (X.cI, 600, .inl (F1 5))), (a 6, .inl (X.cI, 600, .inl (F1 6))), (a 7, .inl (X.cI, 1024, .inl (F1 7))), (a 8, .inl (X.cZ, 600, .inl (F1 8)))] _ _ 36 _ []
      refine z_iinc (q := 39) (v := nI (i + 1)) (lv' := [(3, .int (nI (i + 1))), (0, .ref hx), (1, .ref h), (2, .int (nI (axSz mb ak cnt)))]) C 3 dX0_appendTo_36 rfl rfl (k_inc1 i) (by decide) rfl ?_
      refine z_goto (tgt := 7) C dX0_appendTo_39 (by decide) ?_
      refine z_lv [1, 2, 3, 0] rfl ?_
      exact ih (i + 1) F1 n1 o1 (by omega) (by omega) hR1

set_option maxHeartbeats 4000000 in
set_option maxRecDepth 100000 in
theorem c_X0_appendTo (l : Launch) (D : va_G) (g : ClassId × ClassId × ClassId) (t : Nat × Nat) (hx : Nat) (mb ak : Bool) (cnt : Nat) (hc : cnt ≤ 9) (h : Nat) (a : Nat → Nat) (F : Nat → Nat → Int32) (n : Nat) (ov : Bool) (am : Int32) (S : RSt) (hR : rowsRep F n ov S) : zMZ t l yX0_appendTo wsX0_appendTo ({ frames := 2, cells := 0, slots := 0, locals := 54 } : Room) D g [.ref hx, .ref h] [(hx, .inr (0, [.int (zb mb), .int (zb ak), .int (nI cnt)])), (h, .inr (3, [.ref (a 0), .ref (a 1), .ref (a 2), .ref (a 3), .ref (a 4), .ref (a 5), .ref (a 6), .ref (a 7), .ref (a 8), .int (nI n), .int (zb ov), .int am])), (a 0, .inl (g.1, 600, .inl (F 0))), (a 1, .inl (g.1, 600, .inl (F 1))), (a 2, .inl (g.1, 600, .inl (F 2))), (a 3, .inl (g.1, 600, .inl (F 3))), (a 4, .inl (g.1, 600, .inl (F 4))), (a 5, .inl (g.1, 600, .inl (F 5))), (a 6, .inl (g.1, 600, .inl (F 6))), (a 7, .inl (g.1, 1024, .inl (F 7))), (a 8, .inl (g.2.1, 600, .inl (F 8)))] 0 0 (fun v w1 => ∃ (F1 : Nat → Nat → Int32) (n1 : Nat) (o1 : Bool), rowsRep F1 n1 o1 (axN S (axSz mb ak cnt)) ∧ v = none ∧ w1 = [(hx, .inr (0, [.int (zb mb), .int (zb ak), .int (nI cnt)])), (h, .inr (3, [.ref (a 0), .ref (a 1), .ref (a 2), .ref (a 3), .ref (a 4), .ref (a 5), .ref (a 6), .ref (a 7), .ref (a 8), .int (nI n1), .int (zb o1), .int am])), (a 0, .inl (g.1, 600, .inl (F1 0))), (a 1, .inl (g.1, 600, .inl (F1 1))), (a 2, .inl (g.1, 600, .inl (F1 2))), (a 3, .inl (g.1, 600, .inl (F1 3))), (a 4, .inl (g.1, 600, .inl (F1 4))), (a 5, .inl (g.1, 600, .inl (F1 5))), (a 6, .inl (g.1, 600, .inl (F1 6))), (a 7, .inl (g.1, 1024, .inl (F1 7))), (a 8, .inl (g.2.1, 600, .inl (F1 8)))]) := by
  refine z_metZ (cc := cX0_appendTo) (maxL := 4) (ret := none) (lv := [(0, .ref hx), (1, .ref h)]) (by decide) rfl (Nat.le_of_ble_eq_true rfl) rfl ?_
  intro X hXD hXg hXl hnm C E hZ
  subst hXD hXg hXl
  have C : zC X cX0_appendTo 4 RX0 wsX0_appendTo ({ frames := 2, cells := 0, slots := 0, locals := 54 } : Room) := C
  refine z_aload_n (q := 1) C 0 rfl rfl dX0_appendTo_0 rfl ?_
  refine z_callV (q := 4) (n := 0) (As := []) (rest := []) (wr := [(h, .inr (3, [.ref (a 0), .ref (a 1), .ref (a 2), .ref (a 3), .ref (a 4), .ref (a 5), .ref (a 6), .ref (a 7), .ref (a 8), .int (nI n), .int (zb ov), .int am])), (a 0, .inl (X.cI, 600, .inl (F 0))), (a 1, .inl (X.cI, 600, .inl (F 1))), (a 2, .inl (X.cI, 600, .inl (F 2))), (a 3, .inl (X.cI, 600, .inl (F 3))), (a 4, .inl (X.cI, 600, .inl (F 4))), (a 5, .inl (X.cI, 600, .inl (F 5))), (a 6, .inl (X.cI, 600, .inl (F 6))), (a 7, .inl (X.cI, 1024, .inl (F 7))), (a 8, .inl (X.cZ, 600, .inl (F 8)))]) C (c_X0_size X.l X.D X.2.1 hx mb ak cnt hc) gX0_appendTo_X0_size rfl rfl rfl (by decide +kernel) (by decide) ⟨by first | decide | omega, by first | decide | omega⟩ 0 0 rfl rfl [0] [1, 2, 3, 4, 5, 6, 7, 8, 9, 10] rfl rfl (by decide) (by decide) (by decide) rfl rfl (Nat.le_of_ble_eq_true rfl) dX0_appendTo_1 rfl (fun v w1 hp => ?_)
  obtain ⟨rfl, rfl⟩ := hp
  show zW X 4 [(h, .inr (3, [.ref (a 0), .ref (a 1), .ref (a 2), .ref (a 3), .ref (a 4), .ref (a 5), .ref (a 6), .ref (a 7), .ref (a 8), .int (nI n), .int (zb ov), .int am])), (a 0, .inl (X.cI, 600, .inl (F 0))), (a 1, .inl (X.cI, 600, .inl (F 1))), (a 2, .inl (X.cI, 600, .inl (F 2))), (a 3, .inl (X.cI, 600, .inl (F 3))), (a 4, .inl (X.cI, 600, .inl (F 4))), (a 5, .inl (X.cI, 600, .inl (F 5))), (a 6, .inl (X.cI, 600, .inl (F 6))), (a 7, .inl (X.cI, 1024, .inl (F 7))), (a 8, .inl (X.cZ, 600, .inl (F 8))), (hx, .inr (0, [.int (zb mb), .int (zb ak), .int (nI cnt)]))] _ _ 4 _ [.int (nI (axSz mb ak cnt))]
  refine z_istore_n (q := 5) (lv' := [(2, .int (nI (axSz mb ak cnt))), (0, .ref hx), (1, .ref h)]) C rfl dX0_appendTo_4 rfl (by decide) rfl ?_
  refine z_iconst (q := 6) C k_iconst_0 dX0_appendTo_5 rfl ?_
  refine z_istore_n (q := 7) (lv' := [(3, .int (nI 0)), (2, .int (nI (axSz mb ak cnt))), (0, .ref hx), (1, .ref h)]) C rfl dX0_appendTo_6 rfl (by decide) rfl ?_
  refine z_lv [2, 3, 1, 0] rfl ?_
  refine z_ws (ws' := [(hx, .inr (0, [.int (zb mb), .int (zb ak), .int (nI cnt)])), (h, .inr (3, [.ref (a 0), .ref (a 1), .ref (a 2), .ref (a 3), .ref (a 4), .ref (a 5), .ref (a 6), .ref (a 7), .ref (a 8), .int (nI n), .int (zb ov), .int am])), (a 0, .inl (X.cI, 600, .inl (F 0))), (a 1, .inl (X.cI, 600, .inl (F 1))), (a 2, .inl (X.cI, 600, .inl (F 2))), (a 3, .inl (X.cI, 600, .inl (F 3))), (a 4, .inl (X.cI, 600, .inl (F 4))), (a 5, .inl (X.cI, 600, .inl (F 5))), (a 6, .inl (X.cI, 600, .inl (F 6))), (a 7, .inl (X.cI, 1024, .inl (F 7))), (a 8, .inl (X.cZ, 600, .inl (F 8)))]) [10, 0, 1, 2, 3, 4, 5, 6, 7, 8, 9] (by decide) rfl ?_
  exact l_X0_appendTo hx mb ak cnt hc h a am S C E hZ (axSz mb ak cnt + 1) 0 F n ov (by omega) (by omega) hR
