/-! rows as lists; the table of slots, by itself -/
abbrev Row : Type := Nat → Int32
def mkRow (s p o r f c d : Int32) : Row := fun j => match j with
  | 0 => s
  | 1 => p
  | 2 => o
  | 3 => r
  | 4 => f
  | 5 => c
  | _ => d
def r0 : Row := fun _ => 0
abbrev RSt : Type := List Row × Bool
def hasF (L : List Row) (s p o : Int32) : Bool := L.any (fun r => r 0 == s && (r 1 == p && r 2 == o))
def addR (S : RSt) (r : Row) : RSt := if S.2 = true then S else if hasF S.1 (r 0) (r 1) (r 2) = true then S else if S.1.length = 600 then (S.1, true) else (S.1 ++ [r], false)
theorem getD_lt {L : List Row} {i : Nat} (h : i < L.length) : L.getD i r0 = L[i] := by simp [List.getD_eq_getElem?_getD, h]
theorem getD_app1 {L : List Row} {r : Row} {i : Nat} (h : i < L.length) : (L ++ [r]).getD i r0 = L.getD i r0 := by
  simp [List.getD_eq_getElem?_getD, List.getElem?_append_left h]
theorem getD_app2 {L : List Row} {r : Row} : (L ++ [r]).getD L.length r0 = r := by
  simp [List.getD_eq_getElem?_getD]
theorem hasF_iff {L : List Row} {s p o : Int32} : hasF L s p o = true ↔ ∃ i, i < L.length ∧ L.getD i r0 0 = s ∧ L.getD i r0 1 = p ∧ L.getD i r0 2 = o := by
  unfold hasF
  rw [List.any_eq_true]
  constructor
  · rintro ⟨r, hr, h⟩
    obtain ⟨i, hi, rfl⟩ := List.mem_iff_getElem.mp hr
    simp only [Bool.and_eq_true, beq_iff_eq] at h
    exact ⟨i, hi, by rw [getD_lt hi]; exact h.1, by rw [getD_lt hi]; exact h.2.1, by rw [getD_lt hi]; exact h.2.2⟩
  · rintro ⟨i, hi, h1, h2, h3⟩
    rw [getD_lt hi] at h1 h2 h3
    exact ⟨L[i], List.getElem_mem hi, by simp only [Bool.and_eq_true, beq_iff_eq]; exact ⟨h1, h2, h3⟩⟩
theorem pigeon : ∀ (m n : Nat) (f : Nat → Nat), (∀ i, i < m → f i < n) → (∀ i j, i < m → j < m → f i = f j → i = j) → m ≤ n := by
  intro m
  induction m with
  | zero => intro n f _ _; exact Nat.zero_le n
  | succ m ih =>
    intro n f h1 h2
    have hm := h1 m (Nat.lt_succ_self m)
    obtain ⟨n', rfl⟩ : ∃ n', n = n' + 1 := ⟨n - 1, by omega⟩
    have := ih n' (fun i => if f i = n' then f m else f i) (fun i hi => by
        show (if f i = n' then f m else f i) < n'
        have a := h1 i (by omega)
        split
        · have : f m ≠ n' := fun e => by have := h2 i m (by omega) (by omega) (by omega); omega
          omega
        · omega) (fun i j hi hj e => by
        have e : (if f i = n' then f m else f i) = (if f j = n' then f m else f j) := e
        split at e <;> split at e
        · exact h2 i j (by omega) (by omega) (by omega)
        · have := h2 m j (by omega) (by omega) e; omega
        · have := h2 i m (by omega) (by omega) e; omega
        · exact h2 i j (by omega) (by omega) e)
    omega
def tabOK (F : Nat → Nat → Int32) (n : Nat) : Prop :=
  (∀ k, k < 1024 → F 7 k = (-1) ∨ ∃ j, j < n ∧ F 7 k = nI j) ∧
  (∀ k k', k < 1024 → k' < 1024 → F 7 k = F 7 k' → ¬ F 7 k = (-1) → k = k') ∧
  (∀ j, j < n → ∃ d, d < 1024 ∧ F 7 ((hsh (F 0 j) (F 1 j) (F 2 j) + d) % 1024) = nI j ∧ ∀ e, e < d → ¬ F 7 ((hsh (F 0 j) (F 1 j) (F 2 j) + e) % 1024) = (-1)) ∧
  (∀ i j, i < n → j < n → F 0 i = F 0 j → F 1 i = F 1 j → F 2 i = F 2 j → i = j)
def rowsRep (F : Nat → Nat → Int32) (n : Nat) (ov : Bool) (S : RSt) : Prop :=
  S.1.length = n ∧ n ≤ 600 ∧ S.2 = ov ∧ (ov = true → n = 600) ∧ (∀ i j, i < n → j < 7 → F j i = S.1.getD i r0 j) ∧ tabOK F n
theorem tabOK.free {F : Nat → Nat → Int32} {n : Nat} (h : tabOK F n) (hn : n ≤ 600) (b : Nat) : ∃ d, d < 1024 ∧ F 7 ((b + d) % 1024) = (-1) := by
  refine Classical.byContradiction fun hno => ?_
  have occ : ∀ k, k < 1024 → ∃ j, j < n ∧ F 7 k = nI j := fun k hk => by
    rcases h.1 k hk with h1 | h1
    · refine absurd ⟨(k + 1024 - b % 1024) % 1024, by omega, ?_⟩ hno
      rw [show (b + (k + 1024 - b % 1024) % 1024) % 1024 = k by omega]
      exact h1
    · exact h1
  have := pigeon 1024 n (fun k => (F 7 k).toNatClampNeg) (fun k hk => by
      obtain ⟨j, hj, e⟩ := occ k hk
      show (F 7 k).toNatClampNeg < n
      rw [e, nI_clamp (by omega)]
      exact hj) (fun i j hi hj e => by
      obtain ⟨x, hx, ex⟩ := occ i hi
      obtain ⟨y, hy, ey⟩ := occ j hj
      have e : (F 7 i).toNatClampNeg = (F 7 j).toNatClampNeg := e
      rw [ex, ey, nI_clamp (by omega), nI_clamp (by omega)] at e
      exact h.2.1 i j hi hj (by rw [ex, ey, e]) (by rw [ex]; exact nI_nm1 (by omega)))
  omega
theorem tabOK.bd {F : Nat → Nat → Int32} {n : Nat} (h : tabOK F n) (hn : n ≤ 600) : ∀ k, k < 1024 → F 7 k = (-1) ∨ ∃ j, j < 600 ∧ F 7 k = nI j := fun k hk => (h.1 k hk).imp id (fun ⟨j, h1, h2⟩ => ⟨j, by omega, h2⟩)
theorem tabOK.none {F : Nat → Nat → Int32} {n d : Nat} {s p o : Int32} (h : tabOK F n) (hn : n ≤ 600) (hgo : ∀ e, e < d → slotGo F s p o e) (hd : F 7 ((hsh s p o + d) % 1024) = (-1)) : ∀ j, j < n → ¬ (F 0 j = s ∧ F 1 j = p ∧ F 2 j = o) := by
  rintro j hj ⟨rfl, rfl, rfl⟩
  obtain ⟨dj, h1, h2, h3⟩ := h.2.2.1 j hj
  rcases Nat.lt_trichotomy d dj with c | c | c
  · exact h3 d c hd
  · subst c
    exact nI_nm1 (by omega) (h2.symm.trans hd)
  · obtain ⟨i, hi, e, hne⟩ := hgo dj c
    have : i = j := (nI_eq (by omega) (by omega)).mp (e.symm.trans h2)
    subst this
    exact hne ⟨rfl, rfl, rfl⟩
theorem tabOK.some {F : Nat → Nat → Int32} {n k j : Nat} (h : tabOK F n) (hn : n ≤ 600) (hk : k < 1024) (hj : j < 600) (e : F 7 k = nI j) : j < n := by
  rcases h.1 k hk with h1 | ⟨i, hi, h1⟩
  · exact absurd (e.symm.trans h1) (nI_nm1 (by omega))
  · have : i = j := (nI_eq (by omega) (by omega)).mp (h1.symm.trans e)
    omega
theorem rowsRep.has {F : Nat → Nat → Int32} {n : Nat} {ov : Bool} {S : RSt} (h : rowsRep F n ov S) {s p o : Int32} : hasF S.1 s p o = true ↔ ∃ j, j < n ∧ F 0 j = s ∧ F 1 j = p ∧ F 2 j = o := by
  obtain ⟨h1, h2, h3, h4, h5, h6⟩ := h
  rw [hasF_iff, h1]
  exact ⟨fun ⟨i, a, b, c, d⟩ => ⟨i, a, by rw [h5 i 0 a (by omega)]; exact b, by rw [h5 i 1 a (by omega)]; exact c, by rw [h5 i 2 a (by omega)]; exact d⟩,
    fun ⟨i, a, b, c, d⟩ => ⟨i, a, by rw [← h5 i 0 a (by omega)]; exact b, by rw [← h5 i 1 a (by omega)]; exact c, by rw [← h5 i 2 a (by omega)]; exact d⟩⟩
/-- the arrays behind an addition at the slot k -/
def addF (F : Nat → Nat → Int32) (n k : Nat) (s p o r f c d : Int32) : Nat → Nat → Int32 := fun j => match j with
  | 0 => upd (F 0) n s
  | 1 => upd (F 1) n p
  | 2 => upd (F 2) n o
  | 3 => upd (F 3) n r
  | 4 => upd (F 4) n f
  | 5 => upd (F 5) n c
  | 6 => upd (F 6) n d
  | 7 => upd (F 7) k (nI n)
  | m => F m
theorem tabOK.add {F : Nat → Nat → Int32} {n d0 : Nat} {s p o r f c d : Int32} (h : tabOK F n) (hn : n < 600) (hd0 : d0 < 1024) (hgo : ∀ e, e < d0 → slotGo F s p o e) (hd : F 7 ((hsh s p o + d0) % 1024) = (-1)) : tabOK (addF F n ((hsh s p o + d0) % 1024) s p o r f c d) (n + 1) := by
  have hno := h.none (by omega) hgo hd
  obtain ⟨T1, T2, T3, T4⟩ := h
  have u7 : ∀ q, addF F n ((hsh s p o + d0) % 1024) s p o r f c d 7 q = if q = (hsh s p o + d0) % 1024 then nI n else F 7 q := fun q => rfl
  have u0 : ∀ q, addF F n ((hsh s p o + d0) % 1024) s p o r f c d 0 q = if q = n then s else F 0 q := fun q => rfl
  have u1 : ∀ q, addF F n ((hsh s p o + d0) % 1024) s p o r f c d 1 q = if q = n then p else F 1 q := fun q => rfl
  have u2 : ∀ q, addF F n ((hsh s p o + d0) % 1024) s p o r f c d 2 q = if q = n then o else F 2 q := fun q => rfl
  generalize addF F n ((hsh s p o + d0) % 1024) s p o r f c d = G at *
  refine ⟨?_, ?_, ?_, ?_⟩
  · intro q hq
    rw [u7]
    split
    · exact Or.inr ⟨n, by omega, rfl⟩
    · exact (T1 q hq).imp id (fun ⟨j, a, b⟩ => ⟨j, by omega, b⟩)
  · intro q q' hq hq' e hne
    rw [u7, u7] at e
    rw [u7] at hne
    split at e <;> split at e
    · omega
    · rename_i a b
      rcases T1 q' hq' with h1 | ⟨j, hj, h1⟩
      · rw [h1] at e; exact absurd e (nI_nm1 (by omega))
      · rw [h1] at e; have := (nI_eq (by omega) (by omega)).mp e; omega
    · rename_i a b
      rcases T1 q hq with h1 | ⟨j, hj, h1⟩
      · rw [h1] at e; exact absurd e.symm (nI_nm1 (by omega))
      · rw [h1] at e; have := (nI_eq (by omega) (by omega)).mp e; omega
    · rename_i a b
      rw [if_neg a] at hne
      exact T2 q q' hq hq' e hne
  · intro j hj
    rw [u0, u1, u2]
    rcases Nat.lt_succ_iff_lt_or_eq.mp hj with hj | rfl
    · rw [if_neg (by omega), if_neg (by omega), if_neg (by omega)]
      obtain ⟨dj, a1, a2, a3⟩ := T3 j hj
      refine ⟨dj, a1, ?_, fun e he => ?_⟩
      · rw [u7, if_neg]
        · exact a2
        · intro e
          rw [e, hd] at a2
          exact nI_nm1 (by omega) a2.symm
      · rw [u7]
        split
        · exact nI_nm1 (by omega)
        · exact a3 e he
    · rw [if_pos rfl, if_pos rfl, if_pos rfl]
      refine ⟨d0, hd0, ?_, fun e he => ?_⟩
      · rw [u7, if_pos rfl]
      · rw [u7]
        split
        · exact nI_nm1 (by omega)
        · obtain ⟨i, hi, ei, -⟩ := hgo e he
          rw [ei]
          exact nI_nm1 (by omega)
  · intro i j hi hj
    rw [u0, u0, u1, u1, u2, u2]
    rcases Nat.lt_succ_iff_lt_or_eq.mp hi with hi | rfl <;> rcases Nat.lt_succ_iff_lt_or_eq.mp hj with hj | rfl
    · rw [if_neg (by omega), if_neg (by omega), if_neg (by omega), if_neg (by omega), if_neg (by omega), if_neg (by omega)]
      exact T4 i j hi hj
    · rw [if_neg (by omega), if_pos rfl, if_neg (by omega), if_pos rfl, if_neg (by omega), if_pos rfl]
      exact fun a b c => absurd ⟨a, b, c⟩ (hno i hi)
    · rw [if_pos rfl, if_neg (by omega), if_pos rfl, if_neg (by omega), if_pos rfl, if_neg (by omega)]
      exact fun a b c => absurd ⟨a.symm, b.symm, c.symm⟩ (hno j hj)
    · exact fun _ _ _ => rfl
theorem rowsRep.add {F : Nat → Nat → Int32} {n d0 : Nat} {ov : Bool} {S : RSt} {s p o r f c d : Int32} (h : rowsRep F n ov S) (hn : n < 600) (hd0 : d0 < 1024) (hgo : ∀ e, e < d0 → slotGo F s p o e) (hd : F 7 ((hsh s p o + d0) % 1024) = (-1)) :
    rowsRep (addF F n ((hsh s p o + d0) % 1024) s p o r f c d) (n + 1) ov (addR S (mkRow s p o r f c d)) := by
  have hh : ¬ hasF S.1 s p o = true := fun e => by
    obtain ⟨j, hj, e⟩ := h.has.mp e
    exact h.2.2.2.2.2.none (by omega) hgo hd j hj e
  obtain ⟨h1, h2, h3, h4, h5, h6⟩ := h
  have hov : ov = false := by cases ov with
    | false => rfl
    | true => have := h4 rfl; omega
  subst hov
  have hh2 : ¬ hasF S.1 (mkRow s p o r f c d 0) (mkRow s p o r f c d 1) (mkRow s p o r f c d 2) = true := hh
  have ha : addR S (mkRow s p o r f c d) = (S.1 ++ [mkRow s p o r f c d], false) := by
    unfold addR
    rw [if_neg (by rw [h3]; decide), if_neg hh2, if_neg (by omega)]
  rw [ha]
  refine ⟨by simp [h1], by omega, rfl, (fun e => by cases e), fun i j hi hj => ?_, h6.add hn hd0 hgo hd⟩
  rcases Nat.lt_succ_iff_lt_or_eq.mp hi with hi | rfl
  · rw [getD_app1 (by omega), ← h5 i j hi hj]
    match j, hj with
    | 0, _ => exact if_neg (by omega)
    | 1, _ => exact if_neg (by omega)
    | 2, _ => exact if_neg (by omega)
    | 3, _ => exact if_neg (by omega)
    | 4, _ => exact if_neg (by omega)
    | 5, _ => exact if_neg (by omega)
    | 6, _ => exact if_neg (by omega)
  · rw [show (S.1 ++ [mkRow s p o r f c d]).getD i r0 = mkRow s p o r f c d from by rw [← h1]; exact getD_app2]
    match j, hj with
    | 0, _ => exact if_pos rfl
    | 1, _ => exact if_pos rfl
    | 2, _ => exact if_pos rfl
    | 3, _ => exact if_pos rfl
    | 4, _ => exact if_pos rfl
    | 5, _ => exact if_pos rfl
    | 6, _ => exact if_pos rfl
theorem rowsRep.full {F : Nat → Nat → Int32} {n d0 : Nat} {ov : Bool} {S : RSt} {s p o r f c d : Int32} (h : rowsRep F n ov S) (hn : 600 ≤ n) (hgo : ∀ e, e < d0 → slotGo F s p o e) (hd : F 7 ((hsh s p o + d0) % 1024) = (-1)) :
    rowsRep F n true (addR S (mkRow s p o r f c d)) := by
  have hh : ¬ hasF S.1 s p o = true := fun e => by
    obtain ⟨j, hj, e⟩ := h.has.mp e
    exact h.2.2.2.2.2.none h.2.1 hgo hd j hj e
  obtain ⟨h1, h2, h3, h4, h5, h6⟩ := h
  have hh2 : ¬ hasF S.1 (mkRow s p o r f c d 0) (mkRow s p o r f c d 1) (mkRow s p o r f c d 2) = true := hh
  have ha : addR S (mkRow s p o r f c d) = (S.1, true) := by
    unfold addR
    split
    · rename_i e; rw [← e]
    · first | (rw [if_neg hh2, if_pos (by omega)]; done) | (rw [if_pos (by omega)]; done)
  rw [ha]
  exact ⟨h1, h2, rfl, fun _ => by omega, h5, h6⟩
theorem rowsRep.same {F : Nat → Nat → Int32} {n j k : Nat} {ov : Bool} {S : RSt} {s p o r f c d : Int32} (h : rowsRep F n ov S) (hk : k < 1024) (hj : j < 600) (e : F 7 k = nI j) (hm : F 0 j = s ∧ F 1 j = p ∧ F 2 j = o) :
    rowsRep F n ov (addR S (mkRow s p o r f c d)) := by
  have hh : hasF S.1 s p o = true := h.has.mpr ⟨j, h.2.2.2.2.2.some h.2.1 hk hj e, hm⟩
  have ha : addR S (mkRow s p o r f c d) = S := by
    unfold addR
    split
    · rfl
    · rw [if_pos (show hasF S.1 (mkRow s p o r f c d 0) (mkRow s p o r f c d 1) (mkRow s p o r f c d 2) = true from hh)]
  rw [ha]
  exact h
