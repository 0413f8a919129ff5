/-! what stays true of rows, given facts and types -/
def rok (n : Nat) (x : Int32) : Prop := x = (-1) ∨ ∃ m, m < n ∧ x = nI m
theorem rok.le {n m : Nat} {x : Int32} (h : rok n x) (hn : n ≤ m) : rok m x := h.imp id (fun ⟨k, a, b⟩ => ⟨k, Nat.lt_of_lt_of_le a hn, b⟩)
theorem rok_m1 (n : Nat) : rok n (-1) := Or.inl rfl
theorem refOK.add {S : RSt} (h : refOK S.1) {r : Row} (h4 : rok S.1.length (r 4)) (h5 : rok S.1.length (r 5)) : refOK (addR S r).1 := by
  unfold addR
  split
  · exact h
  · split
    · exact h
    · split
      · exact h
      · intro i j hi hj
        have hi : i < (S.1 ++ [r]).length := hi
        show (S.1 ++ [r]).getD i r0 j = (-1) ∨ ∃ m, m < i ∧ (S.1 ++ [r]).getD i r0 j = nI m
        rw [List.length_append] at hi
        have hi : i < S.1.length + 1 := hi
        rcases Nat.lt_succ_iff_lt_or_eq.mp hi with c1 | c1
        · rw [getD_app1 c1]; exact h i j c1 hj
        · rw [c1, getD_app2]
          rcases hj with rfl | rfl
          · exact h4
          · exact h5
theorem refOK.addL (ts : List Fact) : ∀ {S : RSt} (_ : refOK S.1) (rule : Nat) (x y rd : Int32), rok S.1.length x → rok S.1.length y → refOK (addL S rule x y rd ts).1 := by
  induction ts with
  | nil => intro S h _ _ _ _ _ _; exact h
  | cons t ts ih =>
    intro S h rule x y rd hx hy
    have hl := (addR_stp S (mkRow t.1 t.2.1 t.2.2 (nI rule) x y rd)).len
    exact ih (h.add (r := mkRow t.1 t.2.1 t.2.2 (nI rule) x y rd) hx hy) rule x y rd (hx.le hl) (hy.le hl)
section RK
variable {nl : Nat} {f : Nat → Int32} {L : List Row} {rule : Nat} {rd : Int32}
theorem singN_ref {S : RSt} (hS : refOK S.1) (hl : L.length ≤ S.1.length) : ∀ i, i ≤ L.length → refOK (singN nl f L rule rd S i).1
  | 0, _ => hS
  | i + 1, h => refOK.addL _ (singN_ref hS hl i (by omega)) _ _ _ _ (Or.inr ⟨i, Nat.lt_of_lt_of_le (by omega) (singN_stp S i).len, rfl⟩) (rok_m1 _)
theorem pairN_ref {i : Nat} (hi : i < L.length) {S : RSt} (hS : refOK S.1) (hl : L.length ≤ S.1.length) : ∀ k, k ≤ L.length → refOK (pairN nl L rule rd i S k).1
  | 0, _ => hS
  | k + 1, h => refOK.addL _ (pairN_ref hi hS hl k (by omega)) _ _ _ _ (Or.inr ⟨i, Nat.lt_of_lt_of_le (by omega) (pairN_stp i S k).len, rfl⟩) (Or.inr ⟨k, Nat.lt_of_lt_of_le (by omega) (pairN_stp i S k).len, rfl⟩)
theorem pairsN_ref {S : RSt} (hS : refOK S.1) (hl : L.length ≤ S.1.length) : ∀ i, i ≤ L.length → refOK (pairsN nl L rule rd S i).1
  | 0, _ => hS
  | i + 1, h => by
    show refOK (if L.getD i r0 1 = firstP rule then _ else _ : RSt).1
    split
    · exact pairN_ref (by omega) (pairsN_ref hS hl i (by omega)) (Nat.le_trans hl (pairsN_mono S 0 i (Nat.zero_le _)).len) _ (Nat.le_refl _)
    · exact pairsN_ref hS hl i (by omega)
theorem roundN_ref (hL : refOK L) : ∀ r, refOK (roundN nl f L rd r).1
  | 0 => hL
  | r + 1 => by
    have hl : L.length ≤ (roundN nl f L rd r).1.length := (roundN_mono (nl := nl) (f := f) (L := L) (rd := rd) 0 r (Nat.zero_le _)).len
    show refOK (ruleS nl f L r rd (roundN nl f L rd r)).1
    unfold ruleS
    split
    · exact singN_ref (roundN_ref hL r) hl _ (Nat.le_refl _)
    · exact pairsN_ref (roundN_ref hL r) hl _ (Nat.le_refl _)
end RK
theorem closeN_ref {nl : Nat} {f : Nat → Int32} : ∀ t made L, refOK L → refOK (closeN nl f t made L).1.1
  | 0, _, _, h => h
  | t + 1, made, L, h => by
    have hr : refOK (roundN nl f L (nI (made + 1)) 14).1 := roundN_ref h 14
    unfold closeN
    split
    · exact hr
    · split
      · exact hr
      · exact closeN_ref t (made + 1) _ hr
theorem axN_ref : ∀ i, refOK (axN ([], false) i).1
  | 0 => fun i j hi => absurd hi (Nat.not_lt_zero i)
  | i + 1 => (axN_ref i).add (r := mkRow (axS i) (axP i) (axO i) (-2) (-1) (-1) (nI 0)) (rok_m1 _) (rok_m1 _)
theorem givN_ref {GL : List Row} {S : RSt} (hS : refOK S.1) : ∀ i, refOK (givN GL S i).1
  | 0 => hS
  | i + 1 => (givN_ref hS i).add (r := gRow (GL.getD i r0 0) (GL.getD i r0 1) (GL.getD i r0 2)) (rok_m1 _) (rok_m1 _)
theorem runS_ref (nl : Nat) (f : Nat → Int32) (sz : Nat) (GL : List Row) : refOK (runS nl f sz GL).1.1 := closeN_ref 601 0 _ (givN_ref (axN_ref sz) GL.length)
theorem tok.up {nl m : Nat} {x : Int32} (h : tok nl x) (hm : nl ≤ m) : tok m x := by
  obtain ⟨a, b, c⟩ := h
  exact ⟨a, by omega, c⟩
theorem TOK.up {nl m : Nat} {L : List Row} (h : TOK nl L) (hm : nl ≤ m) : TOK m L := fun i j hi hj => (h i j hi hj).up hm
theorem tok_of {nl : Nat} {x : Int32} (h0 : 0 ≤ x.toInt) (h1 : x.toInt < 300 + (nl : Int)) : tok nl x := by
  obtain ⟨j, hj, e⟩ := i_of (x := x) x.toInt.toNat h0 (by omega)
  exact ⟨j, by omega, e⟩
theorem plainB_tok {nl : Nat} {x : Int32} (h : plainB x = true) : tok nl x := by
  have h := of_decide_eq_true h
  exact tok_of (by omega) (by omega)
theorem litB_tok {nl : Nat} {x : Int32} (h : litB nl x = true) : tok nl x := by
  have h := of_decide_eq_true h
  exact tok_of (by omega) (by omega)
theorem factB_tok {nl : Nat} {s p o : Int32} (h : factB nl s p o = true) : tok nl s ∧ tok nl p ∧ tok nl o := by
  unfold factB at h
  rw [Bool.and_eq_true, Bool.and_eq_true, Bool.or_eq_true] at h
  exact ⟨plainB_tok h.1, plainB_tok h.2.1, h.2.2.elim plainB_tok litB_tok⟩
theorem lit_types {nl : Nat} {tf : Nat → Int32} {x : Int32} (hf : ∀ j, j < nl → tok nl (tf j)) (hc : cdLit nl x = 0) : ∀ j, j < nl + 1 → tok (nl + 1) (upd tf nl x j) := by
  intro j hj
  have hp : plainB x = true := by
    cases e : plainB x with
    | true => rfl
    | false => unfold cdLit at hc; rw [if_pos e] at hc; cases hc
  unfold upd
  split
  · exact plainB_tok hp
  · exact (hf j (by omega)).up (by omega)
theorem lit_le {nl : Nat} {x : Int32} (hn : nl ≤ 40) (hc : cdLit nl x = 0) : nl + 1 ≤ 40 := by
  unfold cdLit at hc
  split at hc
  · cases hc
  · split at hc
    · cases hc
    · omega
theorem tri_tok {nl : Nat} {GL : List Row} {s p o : Int32} (h : TOK nl GL) (hc : cdTri nl GL s p o = 0) : TOK nl (triL GL s p o) := by
  have hf : factB nl s p o = true := by
    cases e : factB nl s p o with
    | true => rfl
    | false => unfold cdTri at hc; rw [if_pos e] at hc; cases hc
  obtain ⟨a, b, c⟩ := factB_tok hf
  unfold triL
  split
  · exact h
  · intro i j hi hj
    rw [List.length_append] at hi
    have hi : i < GL.length + 1 := hi
    rcases Nat.lt_succ_iff_lt_or_eq.mp hi with c1 | c1
    · rw [getD_app1 c1]; exact h i j c1 hj
    · rw [c1, getD_app2]
      match j, hj with
      | 0, _ => exact a
      | 1, _ => exact b
      | 2, _ => exact c
theorem rem_tok {nl : Nat} {GL : List Row} {s p o : Int32} (h : TOK nl GL) : TOK nl (remL GL s p o) := by
  unfold remL
  split
  · rename_i k hk
    intro i j hi hj
    have hm : (GL.eraseIdx k).getD i r0 ∈ GL := by
      rw [List.getD_eq_getElem?_getD, List.getElem?_eq_getElem hi, Option.getD_some]
      exact List.mem_of_mem_eraseIdx (List.getElem_mem hi)
    obtain ⟨q, hq, e⟩ := List.getElem_of_mem hm
    rw [← e]
    have := h q j hq hj
    rw [List.getD_eq_getElem?_getD, List.getElem?_eq_getElem hq, Option.getD_some] at this
    exact this
  · exact h
