/-! rounds -/
def stp (S S' : RSt) : Prop := (∃ M, S'.1 = S.1 ++ M) ∧ (S.2 = true → S' = S)
theorem stp.rf (S : RSt) : stp S S := ⟨⟨[], (List.append_nil _).symm⟩, fun _ => rfl⟩
theorem stp.tr {S S' S'' : RSt} (h : stp S S') (h' : stp S' S'') : stp S S'' := by
  obtain ⟨⟨M, e⟩, f⟩ := h
  obtain ⟨⟨M', e'⟩, f'⟩ := h'
  exact ⟨⟨M ++ M', by rw [e', e, List.append_assoc]⟩, fun g => by rw [f' (by rw [f g]; exact g), f g]⟩
theorem stp.nf {S S' : RSt} (h : stp S S') (g : S'.2 = false) : S.2 = false := by
  cases e : S.2 with
  | false => rfl
  | true => rw [h.2 e, e] at g; cases g
theorem addR_stp (S : RSt) (r : Row) : stp S (addR S r) := by
  unfold addR
  split
  · exact stp.rf S
  · split
    · exact stp.rf S
    · split
      · exact ⟨⟨[], (List.append_nil _).symm⟩, fun g => by contradiction⟩
      · exact ⟨⟨[r], rfl⟩, fun g => by contradiction⟩
theorem hasF_app {L M : List Row} {s p o : Int32} (h : hasF L s p o = true) : hasF (L ++ M) s p o = true := by
  unfold hasF at *
  rw [List.any_append, h, Bool.true_or]
theorem hasF_stp {S S' : RSt} (h : stp S S') {s p o : Int32} (g : hasF S.1 s p o = true) : hasF S'.1 s p o = true := by
  obtain ⟨⟨M, e⟩, -⟩ := h
  rw [e]
  exact hasF_app g
theorem addR_no {S : RSt} {r : Row} (h : hasF S.1 (r 0) (r 1) (r 2) = true) : addR S r = S := by
  unfold addR
  split
  · rfl
  · first | rfl | rw [if_pos h]
theorem addR_has {S : RSt} {r : Row} (h : (addR S r).2 = false) : hasF (addR S r).1 (r 0) (r 1) (r 2) = true := by
  unfold addR at h ⊢
  split
  · rename_i c
    rw [if_pos c, c] at h
    cases h
  · rename_i c
    rw [if_neg c] at h
    split
    · rename_i c2
      exact c2
    · rename_i c2
      rw [if_neg c2] at h
      split
      · rename_i c3
        rw [if_pos c3] at h
        cases h
      · unfold hasF
        rw [List.any_append]
        simp
theorem addL_stp (ts : List Fact) : ∀ (S : RSt) (rule : Nat) (x y rd : Int32), stp S (addL S rule x y rd ts) := by
  induction ts with
  | nil => intro S _ _ _ _; exact stp.rf S
  | cons t ts ih => intro S rule x y rd; exact (addR_stp S _).tr (ih _ rule x y rd)
theorem addL_has (ts : List Fact) : ∀ (S : RSt) (rule : Nat) (x y rd : Int32), (addL S rule x y rd ts).2 = false → ∀ t ∈ ts, hasF (addL S rule x y rd ts).1 t.1 t.2.1 t.2.2 = true := by
  induction ts with
  | nil => intro S _ _ _ _ _ t ht; cases ht
  | cons u ts ih =>
    intro S rule x y rd h t ht
    have st := addL_stp ts (addR S (mkRow u.1 u.2.1 u.2.2 (nI rule) x y rd)) rule x y rd
    rcases List.mem_cons.mp ht with rfl | ht
    · exact hasF_stp st (addR_has (r := mkRow t.1 t.2.1 t.2.2 (nI rule) x y rd) (st.nf h))
    · exact ih _ rule x y rd h t ht
theorem addL_no (ts : List Fact) : ∀ (S : RSt) (rule : Nat) (x y rd : Int32), (∀ t ∈ ts, hasF S.1 t.1 t.2.1 t.2.2 = true) → addL S rule x y rd ts = S := by
  induction ts with
  | nil => intro S _ _ _ _ _; rfl
  | cons u ts ih =>
    intro S rule x y rd h
    show addL (addR S (mkRow u.1 u.2.1 u.2.2 (nI rule) x y rd)) rule x y rd ts = S
    rw [addR_no (r := mkRow u.1 u.2.1 u.2.2 (nI rule) x y rd) (h u List.mem_cons_self)]
    exact ih S rule x y rd (fun t ht => h t (List.mem_cons_of_mem _ ht))
section RN
variable (nl : Nat) (f : Nat → Int32) (L : List Row) (rule : Nat) (rd : Int32)
def singN (S : RSt) : Nat → RSt
  | 0 => S
  | i + 1 => addL (singN S i) rule (nI i) (-1) rd (oneL nl f rule (L.getD i r0 0) (L.getD i r0 1) (L.getD i r0 2))
def pairN (i : Nat) (S : RSt) : Nat → RSt
  | 0 => S
  | k + 1 => addL (pairN i S k) rule (nI i) (nI k) rd (twoL nl rule (L.getD i r0 0) (L.getD i r0 2) (L.getD k r0 0) (L.getD k r0 1) (L.getD k r0 2))
def pairsN (S : RSt) : Nat → RSt
  | 0 => S
  | i + 1 => if L.getD i r0 1 = firstP rule then pairN nl L rule rd i (pairsN S i) L.length else pairsN S i
def ruleS (S : RSt) : RSt := if firstP rule = (-1) then singN nl f L rule rd S L.length else pairsN nl L rule rd S L.length
end RN
def roundN (nl : Nat) (f : Nat → Int32) (L : List Row) (rd : Int32) : Nat → RSt
  | 0 => (L, false)
  | r + 1 => ruleS nl f L r rd (roundN nl f L rd r)
section RL
variable {nl : Nat} {f : Nat → Int32} {L : List Row} {rule : Nat} {rd : Int32}
theorem singN_stp (S : RSt) : ∀ i, stp S (singN nl f L rule rd S i)
  | 0 => stp.rf S
  | i + 1 => (singN_stp S i).tr (addL_stp _ _ _ _ _ _)
theorem singN_mono (S : RSt) : ∀ i j, i ≤ j → stp (singN nl f L rule rd S i) (singN nl f L rule rd S j) := by
  intro i j h
  induction j with
  | zero => rw [show i = 0 by omega]; exact stp.rf _
  | succ j ih =>
    rcases Nat.lt_or_ge i (j + 1) with c | c
    · exact (ih (by omega)).tr (addL_stp _ _ _ _ _ _)
    · rw [show i = j + 1 by omega]; exact stp.rf _
theorem pairN_stp (i : Nat) (S : RSt) : ∀ k, stp S (pairN nl L rule rd i S k)
  | 0 => stp.rf S
  | k + 1 => (pairN_stp i S k).tr (addL_stp _ _ _ _ _ _)
theorem pairN_mono (i : Nat) (S : RSt) : ∀ k j, k ≤ j → stp (pairN nl L rule rd i S k) (pairN nl L rule rd i S j) := by
  intro k j h
  induction j with
  | zero => rw [show k = 0 by omega]; exact stp.rf _
  | succ j ih =>
    rcases Nat.lt_or_ge k (j + 1) with c | c
    · exact (ih (by omega)).tr (addL_stp _ _ _ _ _ _)
    · rw [show k = j + 1 by omega]; exact stp.rf _
theorem pairsN_step (S : RSt) (i : Nat) : stp (pairsN nl L rule rd S i) (pairsN nl L rule rd S (i + 1)) := by
  show stp _ (if L.getD i r0 1 = firstP rule then _ else _)
  split
  · exact pairN_stp i _ _
  · exact stp.rf _
theorem pairsN_mono (S : RSt) : ∀ i j, i ≤ j → stp (pairsN nl L rule rd S i) (pairsN nl L rule rd S j) := by
  intro i j h
  induction j with
  | zero => rw [show i = 0 by omega]; exact stp.rf _
  | succ j ih =>
    rcases Nat.lt_or_ge i (j + 1) with c | c
    · exact (ih (by omega)).tr (pairsN_step S j)
    · rw [show i = j + 1 by omega]; exact stp.rf _
theorem ruleS_stp (S : RSt) : stp S (ruleS nl f L rule rd S) := by
  unfold ruleS
  split
  · exact singN_stp S _
  · exact pairsN_mono S 0 _ (Nat.zero_le _)
theorem roundN_mono : ∀ i j, i ≤ j → stp (roundN nl f L rd i) (roundN nl f L rd j) := by
  intro i j h
  induction j with
  | zero => rw [show i = 0 by omega]; exact stp.rf _
  | succ j ih =>
    rcases Nat.lt_or_ge i (j + 1) with c | c
    · exact (ih (by omega)).tr (ruleS_stp _)
    · rw [show i = j + 1 by omega]; exact stp.rf _
/-- rows of the beginning stay -/
theorem stp.get {S S' : RSt} (h : stp S S') {i : Nat} (hi : i < S.1.length) : S'.1.getD i r0 = S.1.getD i r0 := by
  obtain ⟨⟨M, e⟩, -⟩ := h
  rw [e, List.getD_eq_getElem?_getD, List.getElem?_append_left hi, ← List.getD_eq_getElem?_getD]
theorem stp.len {S S' : RSt} (h : stp S S') : S.1.length ≤ S'.1.length := by
  obtain ⟨⟨M, e⟩, -⟩ := h
  rw [e, List.length_append]
  omega
/-- of rows below m every rule has made all that it can -/
def DONE (nl : Nat) (f : Nat → Int32) (m : Nat) (L : List Row) : Prop :=
  (∀ rule i, rule < 14 → i < m → ∀ t ∈ oneL nl f rule (L.getD i r0 0) (L.getD i r0 1) (L.getD i r0 2), hasF L t.1 t.2.1 t.2.2 = true) ∧
  (∀ rule i k, rule < 14 → i < m → k < m → L.getD i r0 1 = firstP rule → ∀ t ∈ twoL nl rule (L.getD i r0 0) (L.getD i r0 2) (L.getD k r0 0) (L.getD k r0 1) (L.getD k r0 2), hasF L t.1 t.2.1 t.2.2 = true)
theorem DONE.sing {m : Nat} {S : RSt} (h : DONE nl f m L) (hr : rule < 14) (hS : stp (L, false) S) : ∀ j, j ≤ m → singN nl f L rule rd S j = S
  | 0, _ => rfl
  | j + 1, hj => by
    show addL (singN nl f L rule rd S j) _ _ _ _ _ = S
    rw [h.sing hr hS j (by omega)]
    exact addL_no _ _ _ _ _ _ (fun t ht => hasF_stp hS (h.1 rule j hr (by omega) t ht))
theorem DONE.pair {m i : Nat} {S : RSt} (h : DONE nl f m L) (hr : rule < 14) (hi : i < m) (hp : L.getD i r0 1 = firstP rule) (hS : stp (L, false) S) : ∀ j, j ≤ m → pairN nl L rule rd i S j = S
  | 0, _ => rfl
  | j + 1, hj => by
    show addL (pairN nl L rule rd i S j) _ _ _ _ _ = S
    rw [h.pair hr hi hp hS j (by omega)]
    exact addL_no _ _ _ _ _ _ (fun t ht => hasF_stp hS (h.2 rule i j hr hi (by omega) hp t ht))
theorem singN_has {S : RSt} {m : Nat} (hf : (singN nl f L rule rd S m).2 = false) {i : Nat} (hi : i < m) : ∀ t ∈ oneL nl f rule (L.getD i r0 0) (L.getD i r0 1) (L.getD i r0 2), hasF (singN nl f L rule rd S m).1 t.1 t.2.1 t.2.2 = true := by
  intro t ht
  have st := singN_mono (nl := nl) (f := f) (L := L) (rule := rule) (rd := rd) S (i + 1) m (by omega)
  exact hasF_stp st (addL_has _ _ _ _ _ _ (st.nf hf) t ht)
theorem pairN_has {S : RSt} {i m : Nat} (hf : (pairN nl L rule rd i S m).2 = false) {k : Nat} (hk : k < m) : ∀ t ∈ twoL nl rule (L.getD i r0 0) (L.getD i r0 2) (L.getD k r0 0) (L.getD k r0 1) (L.getD k r0 2), hasF (pairN nl L rule rd i S m).1 t.1 t.2.1 t.2.2 = true := by
  intro t ht
  have st := pairN_mono (nl := nl) (L := L) (rule := rule) (rd := rd) i S (k + 1) m (by omega)
  exact hasF_stp st (addL_has _ _ _ _ _ _ (st.nf hf) t ht)
theorem pairsN_has {S : RSt} {m : Nat} (hf : (pairsN nl L rule rd S m).2 = false) {i k : Nat} (hi : i < m) (hk : k < L.length) (hp : L.getD i r0 1 = firstP rule) : ∀ t ∈ twoL nl rule (L.getD i r0 0) (L.getD i r0 2) (L.getD k r0 0) (L.getD k r0 1) (L.getD k r0 2), hasF (pairsN nl L rule rd S m).1 t.1 t.2.1 t.2.2 = true := by
  intro t ht
  have st := pairsN_mono (nl := nl) (L := L) (rule := rule) (rd := rd) S (i + 1) m (by omega)
  have e : pairsN nl L rule rd S (i + 1) = pairN nl L rule rd i (pairsN nl L rule rd S i) L.length := if_pos hp
  rw [e] at st
  exact hasF_stp st (pairN_has (st.nf hf) hk t ht)
theorem oneL_pair {s p o : Int32} (h : ¬ firstP rule = (-1)) : oneL nl f rule s p o = [] := by
  unfold firstP at h
  split at h <;> first | rfl | exact absurd rfl h
theorem round_done (hf : (roundN nl f L rd 14).2 = false) : DONE nl f L.length (roundN nl f L rd 14).1 := by
  have keep : ∀ i, i < L.length → (roundN nl f L rd 14).1.getD i r0 = L.getD i r0 := fun i hi => (roundN_mono (nl := nl) (f := f) (L := L) (rd := rd) 0 14 (by omega)).get hi
  refine ⟨fun rule i hr hi t ht => ?_, fun rule i k hr hi hk hp t ht => ?_⟩
  · rw [keep i hi] at ht
    have st := roundN_mono (nl := nl) (f := f) (L := L) (rd := rd) (rule + 1) 14 (by omega)
    refine hasF_stp st ?_
    by_cases c : firstP rule = (-1)
    · have e : roundN nl f L rd (rule + 1) = singN nl f L rule rd (roundN nl f L rd rule) L.length := if_pos c
      rw [e] at st ⊢
      exact singN_has (st.nf hf) hi t ht
    · rw [oneL_pair c] at ht
      cases ht
  · rw [keep i hi, keep k hk] at ht
    rw [keep i hi] at hp
    have st := roundN_mono (nl := nl) (f := f) (L := L) (rd := rd) (rule + 1) 14 (by omega)
    refine hasF_stp st ?_
    by_cases c : firstP rule = (-1)
    · exfalso
      have e : ∀ a b c' d e', twoL nl rule a b c' d e' = [] := fun a b c' d e' => by
        unfold firstP at c
        unfold twoL
        split at c <;> first | rfl | exact absurd c (by decide)
      rw [e] at ht
      cases ht
    · have e : roundN nl f L rd (rule + 1) = pairsN nl L rule rd (roundN nl f L rd rule) L.length := if_neg c
      rw [e] at st ⊢
      exact pairsN_has (st.nf hf) hi hk hp t ht
end RL
/-- the rounds: how many, and the rows; the answer is -1 where there are too many -/
def closeN (nl : Nat) (f : Nat → Int32) : Nat → Nat → List Row → RSt × Int32
  | 0, _, L => ((L, true), (-1))
  | t + 1, made, L => if (roundN nl f L (nI (made + 1)) 14).2 = true then (roundN nl f L (nI (made + 1)) 14, (-1))
    else if (roundN nl f L (nI (made + 1)) 14).1.length = L.length then (roundN nl f L (nI (made + 1)) 14, nI made)
    else closeN nl f t (made + 1) (roundN nl f L (nI (made + 1)) 14).1
def wantV (rule : Nat) (c d : Int32) : Int32 := if rule = 5 ∨ rule = 11 then d else c
theorem twoL_skip {nl rule : Nat} {c d : Int32} {b : Row} (hru : rule = 2 ∨ rule = 3 ∨ rule = 5 ∨ rule = 7 ∨ rule = 9 ∨ rule = 11) (h : ¬ b (setP rule) = wantV rule c d) : twoL nl rule c d (b 0) (b 1) (b 2) = [] := by
  rcases hru with rfl | rfl | rfl | rfl | rfl | rfl
  · exact if_neg (fun e => h e)
  · exact if_neg (fun e => h e)
  · exact if_neg (fun e => h e.2)
  · exact if_neg (fun e => h e.1)
  · exact if_neg (fun e => h e.2)
  · exact if_neg (fun e => h e.2)
