/-! what each call answers: a code (0, or which exception), a value -/
theorem nI_tn {j : Nat} (h : j < 2 ^ 31) : (nI j).toInt.toNat = j := by rw [nI_toInt h]; rfl
theorem i_of {x : Int32} (m : Nat) (h0 : 0 ≤ x.toInt) (h1 : x.toInt ≤ (m : Int)) : ∃ j, j ≤ m ∧ x = nI j := by
  obtain ⟨j, hj, rfl⟩ := nI_of (x := x) (by rw [Int32.lt_iff_toInt_lt]; show ¬ x.toInt < 0; omega)
  rw [nI_toInt hj] at h1
  exact ⟨j, by omega, rfl⟩
theorem rowB_of {n : Nat} {i : Int32} (h : rowB n i = true) : ∃ j, j < n ∧ i = nI j := by
  have h := of_decide_eq_true h
  obtain ⟨j, hj, e⟩ := i_of (x := i) (i.toInt.toNat) h.1 (by omega)
  exact ⟨j, by omega, e⟩
theorem rowB_t {n j : Nat} (h : j < n) (hn : n ≤ 600) : rowB n (nI j) = true := decide_eq_true (by rw [nI_toInt (by omega)]; omega)
def cdLit (nl : Nat) (x : Int32) : Nat := if plainB x = false then 1 else if nl = 40 then 2 else 0
def factB (nl : Nat) (s p o : Int32) : Bool := plainB s && (plainB p && (plainB o || litB nl o))
def cdTri (nl : Nat) (GL : List Row) (s p o : Int32) : Nat := if factB nl s p o = false then 1 else if hasF GL s p o = false ∧ GL.length = 80 then 2 else 0
def triL (GL : List Row) (s p o : Int32) : List Row := if hasF GL s p o = true then GL else GL ++ [gRow s p o]
def cdRem (nl : Nat) (s p o : Int32) : Nat := if factB nl s p o = false then 1 else 0
def remL (GL : List Row) (s p o : Int32) : List Row := match GL.findIdx? (fun r => r 0 == s && (r 1 == p && r 2 == o)) with
  | some i => GL.eraseIdx i
  | none => GL
def remV (GL : List Row) (sz : Nat) (s p o : Int32) : Int32 := if hasF GL s p o = true then nI 1 else if axHas s p o sz = true then nI 2 else nI 0
def cdCnt (x : Int32) : Nat := if 0 ≤ x.toInt ∧ x.toInt ≤ 9 then 0 else 1
def initS0 (sz : Nat) (GL : List Row) : RSt := givN GL (axN ([], false) sz) GL.length
def runS (nl : Nat) (f : Nat → Int32) (sz : Nat) (GL : List Row) : RSt × Int32 := closeN nl f 601 0 (initS0 sz GL).1
def cdRun (nl : Nat) (f : Nat → Int32) (sz : Nat) (GL : List Row) : Nat := if (runS nl f sz GL).2 = (-1) then 1 else 0
def cdClo (L : List Row) (i x : Int32) : Nat := if rowB L.length i = true ∧ 0 ≤ x.toInt ∧ x.toInt ≤ 6 then 0 else 1
def vaClo (L : List Row) (i x : Int32) : Int32 := L.getD i.toInt.toNat r0 x.toInt.toNat
def cdRow (L : List Row) (i : Int32) : Nat := if rowB L.length i = true then 0 else 1
def vaTra (L : List Row) (i : Int32) : Int32 := nI (cntM (marksL L i.toInt.toNat) (i.toInt.toNat + 1))
def vaPro (L : List Row) (i x : Int32) : Int32 := nthUp (marksL L i.toInt.toNat) x (i.toInt.toNat + 1) 0 0
def cdRul (x : Int32) : Nat := if 0 ≤ x.toInt ∧ x.toInt < 14 then 0 else 1
def cdTol (x : Int32) : Nat := if 0 ≤ x.toInt ∧ x.toInt ≤ 4 then 0 else 1
def vaTol (L : List Row) (k nl m : Nat) (x : Int32) : Int32 := match x.toInt.toNat with
  | 0 => nI L.length
  | 1 => nI k
  | 2 => nI nl
  | 3 => nI (cntN litP L L.length)
  | _ => nI (cntN (memP m) L L.length)
theorem findR_m1 {L : List Row} {s p o : Int32} (hL : L.length ≤ 600) : findR L s p o = (-1) ↔ hasF L s p o = false := by
  constructor
  · intro h
    refine Bool.eq_false_iff.mpr (fun e => ?_)
    unfold findR at h
    split at h
    · rename_i i hi
      obtain ⟨h1, -⟩ := List.findIdx?_eq_some_iff_getElem.mp hi
      exact nI_nm1 (by omega) h
    · rename_i hi
      unfold hasF at e
      obtain ⟨r, hr, e⟩ := List.any_eq_true.mp e
      have := List.findIdx?_eq_none_iff.mp hi r hr
      rw [e] at this
      cases this
  · intro h
    exact findR_none (by rw [h]; decide)
theorem findR_ne {L : List Row} {s p o : Int32} (h : ¬ findR L s p o = (-1)) : ∃ i, i < L.length ∧ L.findIdx? (fun r => r 0 == s && (r 1 == p && r 2 == o)) = some i ∧ findR L s p o = nI i := by
  unfold findR at h ⊢
  split at h
  · rename_i i hi
    obtain ⟨h1, -⟩ := List.findIdx?_eq_some_iff_getElem.mp hi
    exact ⟨i, h1, hi, by first | rfl | rw [hi]⟩
  · exact absurd rfl h
theorem addR_len {S : RSt} {r : Row} : (addR S r).1.length ≤ S.1.length + 1 ∧ (S.2 = false → S.1.length < 600 → (addR S r).2 = false) := by
  unfold addR
  split
  · rename_i c
    exact ⟨by omega, fun e => by rw [c] at e; cases e⟩
  · split
    · rename_i c _
      exact ⟨by omega, fun e _ => e⟩
    · split
      · exact ⟨Nat.le_succ _, fun _ h => by omega⟩
      · exact ⟨by simp, fun _ _ => rfl⟩
theorem axN_len : ∀ i, i ≤ 42 → (axN ([], false) i).1.length ≤ i ∧ (axN ([], false) i).2 = false
  | 0, _ => ⟨Nat.le_refl 0, rfl⟩
  | i + 1, h => by
    obtain ⟨a, b⟩ := axN_len i (by omega)
    have c := @addR_len (axN ([], false) i) (mkRow (axS i) (axP i) (axO i) (-2) (-1) (-1) (nI 0))
    exact ⟨Nat.le_trans c.1 (by omega), c.2 b (by omega)⟩
theorem givN_len {GL : List Row} {S : RSt} (hS : S.1.length ≤ 42) (h2 : S.2 = false) : ∀ i, i ≤ 80 → (givN GL S i).1.length ≤ 42 + i ∧ (givN GL S i).2 = false
  | 0, _ => ⟨hS, h2⟩
  | i + 1, h => by
    obtain ⟨a, b⟩ := givN_len hS h2 i (by omega)
    have c := @addR_len (givN GL S i) (gRow (GL.getD i r0 0) (GL.getD i r0 1) (GL.getD i r0 2))
    exact ⟨Nat.le_trans c.1 (by omega), c.2 b (by omega)⟩
theorem initS0_ok {sz : Nat} {GL : List Row} (hs : sz ≤ 42) (hG : GL.length ≤ 80) : initS0 sz GL = ((initS0 sz GL).1, false) := by
  obtain ⟨a, b⟩ := axN_len sz hs
  exact Prod.ext rfl (givN_len (GL := GL) (by omega) b GL.length hG).2
