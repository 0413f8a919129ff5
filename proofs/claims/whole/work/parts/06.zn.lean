/-! numbers: Booleans as ints, branches on numbers and on Booleans, constants -/
def zb (b : Bool) : Int32 := if b then nI 1 else nI 0
theorem zb_t : zb true = nI 1 := rfl
theorem zb_f : zb false = nI 0 := rfl
theorem zb_nar (b : Bool) : narrow .boolean (.int (zb b)) = .int (zb b) := by cases b <;> decide
theorem zb_fit (b : Bool) : fits .boolean (.int (zb b)) = true := by cases b <;> decide
theorem zb_vnar (b : Bool) : vp_nar .boolean (zb b) = zb b := by cases b <;> decide
theorem zb_0 {b : Bool} : zb b = 0 ↔ b = false := by cases b <;> decide
theorem zb_n0 {b : Bool} : ¬ zb b = 0 ↔ b = true := by cases b <;> decide
section ZN
variable {X : zX} {cc : ByteArray} {nL : Nat} {own : String} {Ts : List Cond} {Rm : Room} {ws : va_W} {n1 n2 pc q : Nat} {lv lv' : List (Nat × Value)} {st : List Value}
theorem z_if_eq_b (C : zC X cc nL own Ts Rm) {b : Bool} {off : Int} {tgt : Nat} (hd : decode cc pc = .ok (.ifCond .eq off, 3)) (ht : (pc : Int) + off = (tgt : Int)) (hq : pc + 3 = q) (kt : b = false → zW X nL ws n1 n2 tgt lv st) (kf : b = true → zW X nL ws n1 n2 q lv st) : zW X nL ws n1 n2 pc lv (.int (zb b) :: st) :=
  z_if_eq C hd ht hq (fun h => kt (zb_0.mp h)) (fun h => kf (zb_n0.mp h))
theorem z_if_ne_b (C : zC X cc nL own Ts Rm) {b : Bool} {off : Int} {tgt : Nat} (hd : decode cc pc = .ok (.ifCond .ne off, 3)) (ht : (pc : Int) + off = (tgt : Int)) (hq : pc + 3 = q) (kt : b = true → zW X nL ws n1 n2 tgt lv st) (kf : b = false → zW X nL ws n1 n2 q lv st) : zW X nL ws n1 n2 pc lv (.int (zb b) :: st) :=
  z_if_ne C hd ht hq (fun h => kt (zb_n0.mp h)) (fun h => kf (zb_0.mp h))
theorem z_if_eq_z (C : zC X cc nL own Ts Rm) {x : Int32} {off : Int} {tgt : Nat} (hd : decode cc pc = .ok (.ifCond .eq off, 3)) (ht : (pc : Int) + off = (tgt : Int)) (hq : pc + 3 = q) (kt : x = nI 0 → zW X nL ws n1 n2 tgt lv st) (kf : ¬ x = nI 0 → zW X nL ws n1 n2 q lv st) : zW X nL ws n1 n2 pc lv (.int x :: st) :=
  z_if_eq C hd ht hq kt kf
theorem z_if_ne_z (C : zC X cc nL own Ts Rm) {x : Int32} {off : Int} {tgt : Nat} (hd : decode cc pc = .ok (.ifCond .ne off, 3)) (ht : (pc : Int) + off = (tgt : Int)) (hq : pc + 3 = q) (kt : ¬ x = nI 0 → zW X nL ws n1 n2 tgt lv st) (kf : x = nI 0 → zW X nL ws n1 n2 q lv st) : zW X nL ws n1 n2 pc lv (.int x :: st) :=
  z_if_ne C hd ht hq kt kf
theorem z_icmp_eq_n (C : zC X cc nL own Ts Rm) {x y : Nat} (hx : x < 2 ^ 31) (hy : y < 2 ^ 31) {off : Int} {tgt : Nat} (hd : decode cc pc = .ok (.if_icmp .eq off, 3)) (ht : (pc : Int) + off = (tgt : Int)) (hq : pc + 3 = q) (kt : x = y → zW X nL ws n1 n2 tgt lv st) (kf : x ≠ y → zW X nL ws n1 n2 q lv st) : zW X nL ws n1 n2 pc lv (.int (nI y) :: .int (nI x) :: st) :=
  z_icmp_eq C hd ht hq (fun h => kt ((nI_eq hx hy).mp h)) (fun h => kf (fun e => h ((nI_eq hx hy).mpr e)))
theorem z_icmp_ne_n (C : zC X cc nL own Ts Rm) {x y : Nat} (hx : x < 2 ^ 31) (hy : y < 2 ^ 31) {off : Int} {tgt : Nat} (hd : decode cc pc = .ok (.if_icmp .ne off, 3)) (ht : (pc : Int) + off = (tgt : Int)) (hq : pc + 3 = q) (kt : x ≠ y → zW X nL ws n1 n2 tgt lv st) (kf : x = y → zW X nL ws n1 n2 q lv st) : zW X nL ws n1 n2 pc lv (.int (nI y) :: .int (nI x) :: st) :=
  z_icmp_ne C hd ht hq (fun h => kt (fun e => h ((nI_eq hx hy).mpr e))) (fun h => kf ((nI_eq hx hy).mp h))
theorem z_icmp_lt_n (C : zC X cc nL own Ts Rm) {x y : Nat} (hx : x < 2 ^ 31) (hy : y < 2 ^ 31) {off : Int} {tgt : Nat} (hd : decode cc pc = .ok (.if_icmp .lt off, 3)) (ht : (pc : Int) + off = (tgt : Int)) (hq : pc + 3 = q) (kt : x < y → zW X nL ws n1 n2 tgt lv st) (kf : y ≤ x → zW X nL ws n1 n2 q lv st) : zW X nL ws n1 n2 pc lv (.int (nI y) :: .int (nI x) :: st) :=
  z_icmp_lt C hd ht hq (fun h => kt ((nI_ltI hx hy).mp h)) (fun h => kf (Nat.not_lt.mp (fun e => h ((nI_ltI hx hy).mpr e))))
theorem z_icmp_ge_n (C : zC X cc nL own Ts Rm) {x y : Nat} (hx : x < 2 ^ 31) (hy : y < 2 ^ 31) {off : Int} {tgt : Nat} (hd : decode cc pc = .ok (.if_icmp .ge off, 3)) (ht : (pc : Int) + off = (tgt : Int)) (hq : pc + 3 = q) (kt : y ≤ x → zW X nL ws n1 n2 tgt lv st) (kf : x < y → zW X nL ws n1 n2 q lv st) : zW X nL ws n1 n2 pc lv (.int (nI y) :: .int (nI x) :: st) :=
  z_icmp_ge C hd ht hq (fun h => kt ((nI_leI hy hx).mp h)) (fun h => kf (Nat.not_le.mp (fun e => h ((nI_leI hy hx).mpr e))))
theorem z_icmp_gt_n (C : zC X cc nL own Ts Rm) {x y : Nat} (hx : x < 2 ^ 31) (hy : y < 2 ^ 31) {off : Int} {tgt : Nat} (hd : decode cc pc = .ok (.if_icmp .gt off, 3)) (ht : (pc : Int) + off = (tgt : Int)) (hq : pc + 3 = q) (kt : y < x → zW X nL ws n1 n2 tgt lv st) (kf : x ≤ y → zW X nL ws n1 n2 q lv st) : zW X nL ws n1 n2 pc lv (.int (nI y) :: .int (nI x) :: st) :=
  z_icmp_gt C hd ht hq (fun h => kt ((nI_ltI hy hx).mp h)) (fun h => kf (Nat.not_lt.mp (fun e => h ((nI_ltI hy hx).mpr e))))
theorem z_icmp_le_n (C : zC X cc nL own Ts Rm) {x y : Nat} (hx : x < 2 ^ 31) (hy : y < 2 ^ 31) {off : Int} {tgt : Nat} (hd : decode cc pc = .ok (.if_icmp .le off, 3)) (ht : (pc : Int) + off = (tgt : Int)) (hq : pc + 3 = q) (kt : x ≤ y → zW X nL ws n1 n2 tgt lv st) (kf : y < x → zW X nL ws n1 n2 q lv st) : zW X nL ws n1 n2 pc lv (.int (nI y) :: .int (nI x) :: st) :=
  z_icmp_le C hd ht hq (fun h => kt ((nI_leI hx hy).mp h)) (fun h => kf (Nat.not_le.mp (fun e => h ((nI_leI hx hy).mpr e))))
theorem nI_eq0 {x : Nat} (hx : x < 2 ^ 31) : nI x = 0 ↔ x = 0 := by rw [← nI_0]; exact nI_eq hx (by decide)
theorem nI_gt0 {x : Nat} (hx : x < 2 ^ 31) : 0 < nI x ↔ 0 < x := by rw [← nI_0]; exact nI_ltI (by decide) hx
theorem nI_le0 {x : Nat} (hx : x < 2 ^ 31) : nI x ≤ 0 ↔ x = 0 := by rw [← nI_0, nI_leI hx (by decide)]; omega
theorem z_if_eq_n (C : zC X cc nL own Ts Rm) {x : Nat} (hx : x < 2 ^ 31) {off : Int} {tgt : Nat} (hd : decode cc pc = .ok (.ifCond .eq off, 3)) (ht : (pc : Int) + off = (tgt : Int)) (hq : pc + 3 = q) (kt : x = 0 → zW X nL ws n1 n2 tgt lv st) (kf : x ≠ 0 → zW X nL ws n1 n2 q lv st) : zW X nL ws n1 n2 pc lv (.int (nI x) :: st) :=
  z_if_eq C hd ht hq (fun h => kt (nI_eq0 hx |>.mp h)) (fun h => kf (fun e => h ((nI_eq0 hx).mpr e)))
theorem z_if_ne_n (C : zC X cc nL own Ts Rm) {x : Nat} (hx : x < 2 ^ 31) {off : Int} {tgt : Nat} (hd : decode cc pc = .ok (.ifCond .ne off, 3)) (ht : (pc : Int) + off = (tgt : Int)) (hq : pc + 3 = q) (kt : x ≠ 0 → zW X nL ws n1 n2 tgt lv st) (kf : x = 0 → zW X nL ws n1 n2 q lv st) : zW X nL ws n1 n2 pc lv (.int (nI x) :: st) :=
  z_if_ne C hd ht hq (fun h => kt (fun e => h ((nI_eq0 hx).mpr e))) (fun h => kf (nI_eq0 hx |>.mp h))
theorem z_if_gt_n (C : zC X cc nL own Ts Rm) {x : Nat} (hx : x < 2 ^ 31) {off : Int} {tgt : Nat} (hd : decode cc pc = .ok (.ifCond .gt off, 3)) (ht : (pc : Int) + off = (tgt : Int)) (hq : pc + 3 = q) (kt : 0 < x → zW X nL ws n1 n2 tgt lv st) (kf : x = 0 → zW X nL ws n1 n2 q lv st) : zW X nL ws n1 n2 pc lv (.int (nI x) :: st) :=
  z_if_gt C hd ht hq (fun h => kt (nI_gt0 hx |>.mp h)) (fun h => kf (Nat.eq_zero_of_not_pos (fun e => h ((nI_gt0 hx).mpr e))))
theorem z_if_le_n (C : zC X cc nL own Ts Rm) {x : Nat} (hx : x < 2 ^ 31) {off : Int} {tgt : Nat} (hd : decode cc pc = .ok (.ifCond .le off, 3)) (ht : (pc : Int) + off = (tgt : Int)) (hq : pc + 3 = q) (kt : x = 0 → zW X nL ws n1 n2 tgt lv st) (kf : 0 < x → zW X nL ws n1 n2 q lv st) : zW X nL ws n1 n2 pc lv (.int (nI x) :: st) :=
  z_if_le C hd ht hq (fun h => kt (nI_le0 hx |>.mp h)) (fun h => kf (Nat.pos_of_ne_zero (fun e => h ((nI_le0 hx).mpr e))))
theorem z_if_lt_n (C : zC X cc nL own Ts Rm) {x : Nat} (hx : x < 2 ^ 31) {off : Int} {tgt : Nat} (hd : decode cc pc = .ok (.ifCond .lt off, 3)) (ht : (pc : Int) + off = (tgt : Int)) (hq : pc + 3 = q) (kt : False → zW X nL ws n1 n2 tgt lv st) (kf : True → zW X nL ws n1 n2 q lv st) : zW X nL ws n1 n2 pc lv (.int (nI x) :: st) :=
  z_if_lt C hd ht hq (fun h => kt (absurd h (nI_pos hx))) (fun h => kf (trivial))
theorem z_if_ge_n (C : zC X cc nL own Ts Rm) {x : Nat} (hx : x < 2 ^ 31) {off : Int} {tgt : Nat} (hd : decode cc pc = .ok (.ifCond .ge off, 3)) (ht : (pc : Int) + off = (tgt : Int)) (hq : pc + 3 = q) (kt : True → zW X nL ws n1 n2 tgt lv st) (kf : False → zW X nL ws n1 n2 q lv st) : zW X nL ws n1 n2 pc lv (.int (nI x) :: st) :=
  z_if_ge C hd ht hq (fun h => kt (trivial)) (fun h => kf (h (nI_pos' hx)))
theorem z_icmp_lt_i (C : zC X cc nL own Ts Rm) {x y : Int32} {a b : Int} (hx : x.toInt = a) (hy : y.toInt = b) {off : Int} {tgt : Nat} (hd : decode cc pc = .ok (.if_icmp .lt off, 3)) (ht : (pc : Int) + off = (tgt : Int)) (hq : pc + 3 = q) (kt : a < b → zW X nL ws n1 n2 tgt lv st) (kf : b ≤ a → zW X nL ws n1 n2 q lv st) : zW X nL ws n1 n2 pc lv (.int y :: .int x :: st) :=
  z_icmp_lt C hd ht hq (fun h => kt (by rw [← hx, ← hy]; exact Int32.lt_iff_toInt_lt.mp h)) (fun h => kf (by rw [← hx, ← hy]; exact Int.not_lt.mp (fun e => h (Int32.lt_iff_toInt_lt.mpr e))))
theorem z_icmp_ge_i (C : zC X cc nL own Ts Rm) {x y : Int32} {a b : Int} (hx : x.toInt = a) (hy : y.toInt = b) {off : Int} {tgt : Nat} (hd : decode cc pc = .ok (.if_icmp .ge off, 3)) (ht : (pc : Int) + off = (tgt : Int)) (hq : pc + 3 = q) (kt : b ≤ a → zW X nL ws n1 n2 tgt lv st) (kf : a < b → zW X nL ws n1 n2 q lv st) : zW X nL ws n1 n2 pc lv (.int y :: .int x :: st) :=
  z_icmp_ge C hd ht hq (fun h => kt (by rw [← hx, ← hy]; exact Int32.le_iff_toInt_le.mp h)) (fun h => kf (by rw [← hx, ← hy]; exact Int.not_le.mp (fun e => h (Int32.le_iff_toInt_le.mpr e))))
theorem z_icmp_gt_i (C : zC X cc nL own Ts Rm) {x y : Int32} {a b : Int} (hx : x.toInt = a) (hy : y.toInt = b) {off : Int} {tgt : Nat} (hd : decode cc pc = .ok (.if_icmp .gt off, 3)) (ht : (pc : Int) + off = (tgt : Int)) (hq : pc + 3 = q) (kt : b < a → zW X nL ws n1 n2 tgt lv st) (kf : a ≤ b → zW X nL ws n1 n2 q lv st) : zW X nL ws n1 n2 pc lv (.int y :: .int x :: st) :=
  z_icmp_gt C hd ht hq (fun h => kt (by rw [← hx, ← hy]; exact Int32.lt_iff_toInt_lt.mp h)) (fun h => kf (by rw [← hx, ← hy]; exact Int.not_lt.mp (fun e => h (Int32.lt_iff_toInt_lt.mpr e))))
theorem z_icmp_le_i (C : zC X cc nL own Ts Rm) {x y : Int32} {a b : Int} (hx : x.toInt = a) (hy : y.toInt = b) {off : Int} {tgt : Nat} (hd : decode cc pc = .ok (.if_icmp .le off, 3)) (ht : (pc : Int) + off = (tgt : Int)) (hq : pc + 3 = q) (kt : a ≤ b → zW X nL ws n1 n2 tgt lv st) (kf : b < a → zW X nL ws n1 n2 q lv st) : zW X nL ws n1 n2 pc lv (.int y :: .int x :: st) :=
  z_icmp_le C hd ht hq (fun h => kt (by rw [← hx, ← hy]; exact Int32.le_iff_toInt_le.mp h)) (fun h => kf (by rw [← hx, ← hy]; exact Int.not_le.mp (fun e => h (Int32.le_iff_toInt_le.mpr e))))
theorem z_if_lt_i (C : zC X cc nL own Ts Rm) {x : Int32} {a : Int} (hx : x.toInt = a) {off : Int} {tgt : Nat} (hd : decode cc pc = .ok (.ifCond .lt off, 3)) (ht : (pc : Int) + off = (tgt : Int)) (hq : pc + 3 = q) (kt : a < 0 → zW X nL ws n1 n2 tgt lv st) (kf : 0 ≤ a → zW X nL ws n1 n2 q lv st) : zW X nL ws n1 n2 pc lv (.int x :: st) :=
  z_if_lt C hd ht hq (fun h => kt (by rw [← hx]; exact Int32.lt_iff_toInt_lt.mp h)) (fun h => kf (by rw [← hx]; exact Int.not_lt.mp (fun e => h (Int32.lt_iff_toInt_lt.mpr e))))
theorem z_if_ge_i (C : zC X cc nL own Ts Rm) {x : Int32} {a : Int} (hx : x.toInt = a) {off : Int} {tgt : Nat} (hd : decode cc pc = .ok (.ifCond .ge off, 3)) (ht : (pc : Int) + off = (tgt : Int)) (hq : pc + 3 = q) (kt : 0 ≤ a → zW X nL ws n1 n2 tgt lv st) (kf : a < 0 → zW X nL ws n1 n2 q lv st) : zW X nL ws n1 n2 pc lv (.int x :: st) :=
  z_if_ge C hd ht hq (fun h => kt (by rw [← hx]; exact Int32.le_iff_toInt_le.mp h)) (fun h => kf (by rw [← hx]; exact Int.not_le.mp (fun e => h (Int32.le_iff_toInt_le.mpr e))))
theorem z_if_gt_i (C : zC X cc nL own Ts Rm) {x : Int32} {a : Int} (hx : x.toInt = a) {off : Int} {tgt : Nat} (hd : decode cc pc = .ok (.ifCond .gt off, 3)) (ht : (pc : Int) + off = (tgt : Int)) (hq : pc + 3 = q) (kt : 0 < a → zW X nL ws n1 n2 tgt lv st) (kf : a ≤ 0 → zW X nL ws n1 n2 q lv st) : zW X nL ws n1 n2 pc lv (.int x :: st) :=
  z_if_gt C hd ht hq (fun h => kt (by rw [← hx]; exact Int32.lt_iff_toInt_lt.mp h)) (fun h => kf (by rw [← hx]; exact Int.not_lt.mp (fun e => h (Int32.lt_iff_toInt_lt.mpr e))))
theorem z_if_le_i (C : zC X cc nL own Ts Rm) {x : Int32} {a : Int} (hx : x.toInt = a) {off : Int} {tgt : Nat} (hd : decode cc pc = .ok (.ifCond .le off, 3)) (ht : (pc : Int) + off = (tgt : Int)) (hq : pc + 3 = q) (kt : a ≤ 0 → zW X nL ws n1 n2 tgt lv st) (kf : 0 < a → zW X nL ws n1 n2 q lv st) : zW X nL ws n1 n2 pc lv (.int x :: st) :=
  z_if_le C hd ht hq (fun h => kt (by rw [← hx]; exact Int32.le_iff_toInt_le.mp h)) (fun h => kf (by rw [← hx]; exact Int.not_le.mp (fun e => h (Int32.le_iff_toInt_le.mpr e))))
end ZN
theorem k_bipush_m2 : (Int8.ofInt (-2)).toInt32 = (-2) := by decide
theorem k_bipush_6 : (Int8.ofInt (6)).toInt32 = nI 6 := by decide
theorem k_bipush_7 : (Int8.ofInt (7)).toInt32 = nI 7 := by decide
theorem k_bipush_8 : (Int8.ofInt (8)).toInt32 = nI 8 := by decide
theorem k_bipush_9 : (Int8.ofInt (9)).toInt32 = nI 9 := by decide
theorem k_bipush_10 : (Int8.ofInt (10)).toInt32 = nI 10 := by decide
theorem k_bipush_11 : (Int8.ofInt (11)).toInt32 = nI 11 := by decide
theorem k_bipush_12 : (Int8.ofInt (12)).toInt32 = nI 12 := by decide
theorem k_bipush_13 : (Int8.ofInt (13)).toInt32 = nI 13 := by decide
theorem k_bipush_14 : (Int8.ofInt (14)).toInt32 = nI 14 := by decide
theorem k_bipush_15 : (Int8.ofInt (15)).toInt32 = nI 15 := by decide
theorem k_bipush_20 : (Int8.ofInt (20)).toInt32 = nI 20 := by decide
theorem k_bipush_22 : (Int8.ofInt (22)).toInt32 = nI 22 := by decide
theorem k_bipush_28 : (Int8.ofInt (28)).toInt32 = nI 28 := by decide
theorem k_bipush_29 : (Int8.ofInt (29)).toInt32 = nI 29 := by decide
theorem k_bipush_40 : (Int8.ofInt (40)).toInt32 = nI 40 := by decide
theorem k_bipush_42 : (Int8.ofInt (42)).toInt32 = nI 42 := by decide
theorem k_bipush_80 : (Int8.ofInt (80)).toInt32 = nI 80 := by decide
theorem k_bipush_100 : (Int8.ofInt (100)).toInt32 = nI 100 := by decide
theorem k_iconst_m1 : Int32.ofInt (-1) = (-1) := by decide
theorem k_iconst_0 : Int32.ofInt (0) = nI 0 := by decide
theorem k_iconst_1 : Int32.ofInt (1) = nI 1 := by decide
theorem k_iconst_2 : Int32.ofInt (2) = nI 2 := by decide
theorem k_iconst_3 : Int32.ofInt (3) = nI 3 := by decide
theorem k_iconst_4 : Int32.ofInt (4) = nI 4 := by decide
theorem k_iconst_5 : Int32.ofInt (5) = nI 5 := by decide
theorem k_inc1 (a : Nat) : nI a + Int32.ofInt 1 = nI (a + 1) := nI_add a 1
theorem k_inc4 (a : Nat) : nI a + Int32.ofInt 4 = nI (a + 4) := nI_add a 4
theorem k_ldc_40603 : (40603 : Int32) = nI 40603 := by decide
theorem k_ldc_40703 : (40703 : Int32) = nI 40703 := by decide
theorem k_ldc_50601 : (50601 : Int32) = nI 50601 := by decide
theorem k_ldc_50701 : (50701 : Int32) = nI 50701 := by decide
theorem k_ldc_60601 : (60601 : Int32) = nI 60601 := by decide
theorem k_ldc_60703 : (60703 : Int32) = nI 60703 := by decide
theorem k_ldc_70601 : (70601 : Int32) = nI 70601 := by decide
theorem k_ldc_70703 : (70703 : Int32) = nI 70703 := by decide
theorem k_ldc_90403 : (90403 : Int32) = nI 90403 := by decide
theorem k_ldc_100602 : (100602 : Int32) = nI 100602 := by decide
theorem k_ldc_100702 : (100702 : Int32) = nI 100702 := by decide
theorem k_ldc_110401 : (110401 : Int32) = nI 110401 := by decide
theorem k_sipush_199 : (Int16.ofInt (199)).toInt32 = nI 199 := by decide
theorem k_sipush_240 : (Int16.ofInt (240)).toInt32 = nI 240 := by decide
theorem k_sipush_300 : (Int16.ofInt (300)).toInt32 = nI 300 := by decide
theorem k_sipush_400 : (Int16.ofInt (400)).toInt32 = nI 400 := by decide
theorem k_sipush_600 : (Int16.ofInt (600)).toInt32 = nI 600 := by decide
theorem k_sipush_601 : (Int16.ofInt (601)).toInt32 = nI 601 := by decide
theorem k_sipush_602 : (Int16.ofInt (602)).toInt32 = nI 602 := by decide
theorem k_sipush_613 : (Int16.ofInt (613)).toInt32 = nI 613 := by decide
theorem k_sipush_702 : (Int16.ofInt (702)).toInt32 = nI 702 := by decide
theorem k_sipush_703 : (Int16.ofInt (703)).toInt32 = nI 703 := by decide
theorem k_sipush_1023 : (Int16.ofInt (1023)).toInt32 = nI 1023 := by decide
theorem k_sipush_1024 : (Int16.ofInt (1024)).toInt32 = nI 1024 := by decide
theorem k_sipush_2048 : (Int16.ofInt (2048)).toInt32 = nI 2048 := by decide
theorem k_sipush_4200 : (Int16.ofInt (4200)).toInt32 = nI 4200 := by decide
theorem k_sipush_4207 : (Int16.ofInt (4207)).toInt32 = nI 4207 := by decide
theorem k_sipush_10000 : (Int16.ofInt (10000)).toInt32 = nI 10000 := by decide

theorem ti_0 : (nI 0).toInt = 0 := by decide
theorem ti_1 : (nI 1).toInt = 1 := by decide
theorem ti_2 : (nI 2).toInt = 2 := by decide
theorem ti_3 : (nI 3).toInt = 3 := by decide
theorem ti_4 : (nI 4).toInt = 4 := by decide
theorem ti_5 : (nI 5).toInt = 5 := by decide
theorem ti_6 : (nI 6).toInt = 6 := by decide
theorem ti_7 : (nI 7).toInt = 7 := by decide
theorem ti_8 : (nI 8).toInt = 8 := by decide
theorem ti_9 : (nI 9).toInt = 9 := by decide
theorem ti_10 : (nI 10).toInt = 10 := by decide
theorem ti_11 : (nI 11).toInt = 11 := by decide
theorem ti_12 : (nI 12).toInt = 12 := by decide
theorem ti_13 : (nI 13).toInt = 13 := by decide
theorem ti_14 : (nI 14).toInt = 14 := by decide
theorem ti_15 : (nI 15).toInt = 15 := by decide
theorem ti_20 : (nI 20).toInt = 20 := by decide
theorem ti_22 : (nI 22).toInt = 22 := by decide
theorem ti_28 : (nI 28).toInt = 28 := by decide
theorem ti_29 : (nI 29).toInt = 29 := by decide
theorem ti_40 : (nI 40).toInt = 40 := by decide
theorem ti_42 : (nI 42).toInt = 42 := by decide
theorem ti_80 : (nI 80).toInt = 80 := by decide
theorem ti_100 : (nI 100).toInt = 100 := by decide
theorem ti_199 : (nI 199).toInt = 199 := by decide
theorem ti_240 : (nI 240).toInt = 240 := by decide
theorem ti_300 : (nI 300).toInt = 300 := by decide
theorem ti_400 : (nI 400).toInt = 400 := by decide
theorem ti_600 : (nI 600).toInt = 600 := by decide
theorem ti_601 : (nI 601).toInt = 601 := by decide
theorem ti_602 : (nI 602).toInt = 602 := by decide
theorem ti_613 : (nI 613).toInt = 613 := by decide
theorem ti_702 : (nI 702).toInt = 702 := by decide
theorem ti_703 : (nI 703).toInt = 703 := by decide
theorem ti_1023 : (nI 1023).toInt = 1023 := by decide
theorem ti_1024 : (nI 1024).toInt = 1024 := by decide
theorem ti_2048 : (nI 2048).toInt = 2048 := by decide
theorem ti_4200 : (nI 4200).toInt = 4200 := by decide
theorem ti_4207 : (nI 4207).toInt = 4207 := by decide
theorem ti_10000 : (nI 10000).toInt = 10000 := by decide
theorem ti_40603 : (nI 40603).toInt = 40603 := by decide
theorem ti_40703 : (nI 40703).toInt = 40703 := by decide
theorem ti_50601 : (nI 50601).toInt = 50601 := by decide
theorem ti_50701 : (nI 50701).toInt = 50701 := by decide
theorem ti_60601 : (nI 60601).toInt = 60601 := by decide
theorem ti_60703 : (nI 60703).toInt = 60703 := by decide
theorem ti_70601 : (nI 70601).toInt = 70601 := by decide
theorem ti_70703 : (nI 70703).toInt = 70703 := by decide
theorem ti_90403 : (nI 90403).toInt = 90403 := by decide
theorem ti_100602 : (nI 100602).toInt = 100602 := by decide
theorem ti_100702 : (nI 100702).toInt = 100702 := by decide
theorem ti_110401 : (nI 110401).toInt = 110401 := by decide
theorem ti_m1 : ((-1) : Int32).toInt = -1 := by decide
theorem ti_m2 : ((-2) : Int32).toInt = -2 := by decide
theorem zb_is1 {b : Bool} (h : b = true) : nI 1 = zb b := by rw [h]; rfl
theorem zb_is0 {b : Bool} (h : b = false) : nI 0 = zb b := by rw [h]; rfl