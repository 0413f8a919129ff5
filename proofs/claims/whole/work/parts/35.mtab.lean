/-! the reference's table -/
def hM (s p o : Int32) : Nat := (400 * (400 * s.toInt.toNat + p.toInt.toNat) + o.toInt.toNat) % 2048
theorem hM_lt (s p o : Int32) : hM s p o < 2048 := Nat.mod_lt _ (by decide)
def mGo (fr P : Nat → Int32) (s p o : Int32) (d : Nat) : Prop := ∃ j, j < 600 ∧ P ((hM s p o + d) % 2048) = nI (j + 1) ∧ ¬ (fr (7 * j) = s ∧ fr (7 * j + 1) = p ∧ fr (7 * j + 2) = o)
def mEnd (fr P : Nat → Int32) (s p o : Int32) (d : Nat) : Prop := P ((hM s p o + d) % 2048) = nI 0 ∨ ∃ j, j < 600 ∧ P ((hM s p o + d) % 2048) = nI (j + 1) ∧ fr (7 * j) = s ∧ fr (7 * j + 1) = p ∧ fr (7 * j + 2) = o
theorem nI_n0 {j : Nat} (h : j < 600) : ¬ nI (j + 1) = nI 0 := fun e => by
  have := (nI_eq (a := j + 1) (b := 0) (by omega) (by omega)).mp e
  omega
def mtab (fr P : Nat → Int32) (n : Nat) : Prop :=
  (∀ k, k < 2048 → P k = nI 0 ∨ ∃ j, j < n ∧ P k = nI (j + 1)) ∧
  (∀ k k', k < 2048 → k' < 2048 → P k = P k' → ¬ P k = nI 0 → k = k') ∧
  (∀ j, j < n → ∃ d, d < 2048 ∧ P ((hM (fr (7 * j)) (fr (7 * j + 1)) (fr (7 * j + 2)) + d) % 2048) = nI (j + 1) ∧ ∀ e, e < d → ¬ P ((hM (fr (7 * j)) (fr (7 * j + 1)) (fr (7 * j + 2)) + e) % 2048) = nI 0) ∧
  (∀ i j, i < n → j < n → fr (7 * i) = fr (7 * j) → fr (7 * i + 1) = fr (7 * j + 1) → fr (7 * i + 2) = fr (7 * j + 2) → i = j)
def mRep (fr P : Nat → Int32) (n : Nat) (ov : Bool) (S : RSt) : Prop :=
  S.1.length = n ∧ n ≤ 600 ∧ S.2 = ov ∧ (ov = true → n = 600) ∧ (∀ i j, i < n → j < 7 → fr (7 * i + j) = S.1.getD i r0 j) ∧ mtab fr P n
theorem mtab.free {fr P : Nat → Int32} {n : Nat} (h : mtab fr P n) (hn : n ≤ 600) (b : Nat) : ∃ d, d < 2048 ∧ P ((b + d) % 2048) = nI 0 := by
  refine Classical.byContradiction fun hno => ?_
  have occ : ∀ k, k < 2048 → ∃ j, j < n ∧ P k = nI (j + 1) := fun k hk => by
    rcases h.1 k hk with h1 | h1
    · refine absurd ⟨(k + 2048 - b % 2048) % 2048, by omega, ?_⟩ hno
      rw [show (b + (k + 2048 - b % 2048) % 2048) % 2048 = k by omega]
      exact h1
    · exact h1
  have := pigeon 2048 n (fun k => (P k).toNatClampNeg - 1) (fun k hk => by
      obtain ⟨j, hj, e⟩ := occ k hk
      show (P k).toNatClampNeg - 1 < n
      rw [e, nI_clamp (by omega)]
      omega) (fun i j hi hj e => by
      obtain ⟨x, hx, ex⟩ := occ i hi
      obtain ⟨y, hy, ey⟩ := occ j hj
      have e : (P i).toNatClampNeg - 1 = (P j).toNatClampNeg - 1 := e
      rw [ex, ey, nI_clamp (by omega), nI_clamp (by omega)] at e
      exact h.2.1 i j hi hj (by rw [ex, ey]; congr 1; omega) (by rw [ex]; exact nI_n0 (by omega)))
  omega
theorem mtab.bd {fr P : Nat → Int32} {n : Nat} (h : mtab fr P n) (hn : n ≤ 600) : ∀ k, k < 2048 → P k = nI 0 ∨ ∃ j, j < 600 ∧ P k = nI (j + 1) := fun k hk => (h.1 k hk).imp id (fun ⟨j, h1, h2⟩ => ⟨j, by omega, h2⟩)
theorem mtab.none {fr P : Nat → Int32} {n d : Nat} {s p o : Int32} (h : mtab fr P n) (hn : n ≤ 600) (hgo : ∀ e, e < d → mGo fr P s p o e) (hd : P ((hM s p o + d) % 2048) = nI 0) : ∀ j, j < n → ¬ (fr (7 * j) = s ∧ fr (7 * j + 1) = p ∧ fr (7 * j + 2) = o) := by
  rintro j hj ⟨rfl, rfl, rfl⟩
  obtain ⟨dj, h1, h2, h3⟩ := h.2.2.1 j hj
  rcases Nat.lt_trichotomy d dj with c | c | c
  · exact h3 d c hd
  · subst c
    exact nI_n0 (by omega) (h2.symm.trans hd)
  · obtain ⟨i, hi, e, hne⟩ := hgo dj c
    have : i + 1 = j + 1 := (nI_eq (by omega) (by omega)).mp (e.symm.trans h2)
    obtain rfl : i = j := by omega
    exact hne ⟨rfl, rfl, rfl⟩
theorem mtab.some {fr P : Nat → Int32} {n k j : Nat} (h : mtab fr P n) (hn : n ≤ 600) (hk : k < 2048) (hj : j < 600) (e : P k = nI (j + 1)) : j < n := by
  rcases h.1 k hk with h1 | ⟨i, hi, h1⟩
  · exact absurd (e.symm.trans h1) (nI_n0 (by omega))
  · have : i + 1 = j + 1 := (nI_eq (by omega) (by omega)).mp (h1.symm.trans e)
    omega
theorem mRep.has {fr P : Nat → Int32} {n : Nat} {ov : Bool} {S : RSt} (h : mRep fr P n ov S) {s p o : Int32} : hasF S.1 s p o = true ↔ ∃ j, j < n ∧ fr (7 * j) = s ∧ fr (7 * j + 1) = p ∧ fr (7 * j + 2) = o := by
  obtain ⟨h1, h2, h3, h4, h5, h6⟩ := h
  rw [hasF_iff, h1]
  exact ⟨fun ⟨i, a, b, c, d⟩ => ⟨i, a, by rw [show 7 * i = 7 * i + 0 from rfl, h5 i 0 a (by omega)]; exact b, by rw [h5 i 1 a (by omega)]; exact c, by rw [h5 i 2 a (by omega)]; exact d⟩,
    fun ⟨i, a, b, c, d⟩ => ⟨i, a, by rw [← h5 i 0 a (by omega)]; exact b, by rw [← h5 i 1 a (by omega)]; exact c, by rw [← h5 i 2 a (by omega)]; exact d⟩⟩
def addFr (fr : Nat → Int32) (n : Nat) (s p o r f c d : Int32) : Nat → Int32 := upd (upd (upd (upd (upd (upd (upd fr (7 * n) s) (7 * n + 1) p) (7 * n + 2) o) (7 * n + 3) r) (7 * n + 4) f) (7 * n + 5) c) (7 * n + 6) d
theorem addFr_lo {fr : Nat → Int32} {n q : Nat} {s p o r f c d : Int32} (h : q < 7 * n) : addFr fr n s p o r f c d q = fr q := by
  unfold addFr
  rw [pk_un (by omega), pk_un (by omega), pk_un (by omega), pk_un (by omega), pk_un (by omega), pk_un (by omega), pk_un (by omega)]
theorem addFr_hi {fr : Nat → Int32} {n j : Nat} {s p o r f c d : Int32} (h : j < 7) : addFr fr n s p o r f c d (7 * n + j) = mkRow s p o r f c d j := by
  unfold addFr
  match j, h with
  | 0, _ => rw [pk_un (by omega), pk_un (by omega), pk_un (by omega), pk_un (by omega), pk_un (by omega), pk_un (by omega)]; exact pk_us
  | 1, _ => rw [pk_un (by omega), pk_un (by omega), pk_un (by omega), pk_un (by omega), pk_un (by omega)]; exact pk_us
  | 2, _ => rw [pk_un (by omega), pk_un (by omega), pk_un (by omega), pk_un (by omega)]; exact pk_us
  | 3, _ => rw [pk_un (by omega), pk_un (by omega), pk_un (by omega)]; exact pk_us
  | 4, _ => rw [pk_un (by omega), pk_un (by omega)]; exact pk_us
  | 5, _ => rw [pk_un (by omega)]; exact pk_us
  | 6, _ => exact pk_us
theorem mtab.add {fr P : Nat → Int32} {n d0 : Nat} {s p o r f c d : Int32} (h : mtab fr P n) (hn : n < 600) (hd0 : d0 < 2048) (hgo : ∀ e, e < d0 → mGo fr P s p o e) (hd : P ((hM s p o + d0) % 2048) = nI 0) : mtab (addFr fr n s p o r f c d) (upd P ((hM s p o + d0) % 2048) (nI (n + 1))) (n + 1) := by
  have hno := h.none (by omega) hgo hd
  obtain ⟨T1, T2, T3, T4⟩ := h
  have u7 : ∀ q, upd P ((hM s p o + d0) % 2048) (nI (n + 1)) q = if q = (hM s p o + d0) % 2048 then nI (n + 1) else P q := fun q => rfl
  have u0 : ∀ q, q < n → ∀ j, j < 3 → addFr fr n s p o r f c d (7 * q + j) = fr (7 * q + j) := fun q hq j hj => addFr_lo (by omega)
  have v0 : addFr fr n s p o r f c d (7 * n) = s := addFr_hi (j := 0) (by omega)
  have v1 : addFr fr n s p o r f c d (7 * n + 1) = p := addFr_hi (j := 1) (by omega)
  have v2 : addFr fr n s p o r f c d (7 * n + 2) = o := addFr_hi (j := 2) (by omega)
  have w0 : ∀ q, q < n → addFr fr n s p o r f c d (7 * q) = fr (7 * q) := fun q hq => u0 q hq 0 (by omega)
  have w1 : ∀ q, q < n → addFr fr n s p o r f c d (7 * q + 1) = fr (7 * q + 1) := fun q hq => u0 q hq 1 (by omega)
  have w2 : ∀ q, q < n → addFr fr n s p o r f c d (7 * q + 2) = fr (7 * q + 2) := fun q hq => u0 q hq 2 (by omega)
  generalize addFr fr n s p o r f c d = g at *
  generalize upd P ((hM s p o + d0) % 2048) (nI (n + 1)) = Q at *
  refine ⟨?_, ?_, ?_, ?_⟩
  · intro q hq
    rw [u7]
    split
    · exact Or.inr ⟨n, by omega, rfl⟩
    · exact (T1 q hq).imp id (fun ⟨j, a, b⟩ => ⟨j, by omega, b⟩)
  · intro q q' hq hq' e hne
    rw [u7, u7] at e
    rw [u7] at hne
    split at e <;> split at e
    · omega
    · rcases T1 q' hq' with h1 | ⟨j, hj, h1⟩
      · rw [h1] at e; exact absurd e (nI_n0 (by omega))
      · rw [h1] at e; have := (nI_eq (by omega) (by omega)).mp e; omega
    · rcases T1 q hq with h1 | ⟨j, hj, h1⟩
      · rw [h1] at e; exact absurd e.symm (nI_n0 (by omega))
      · rw [h1] at e; have := (nI_eq (by omega) (by omega)).mp e; omega
    · rename_i a b
      rw [if_neg a] at hne
      exact T2 q q' hq hq' e hne
  · intro j hj
    rcases Nat.lt_succ_iff_lt_or_eq.mp hj with hj | rfl
    · rw [w0 j hj, w1 j hj, w2 j hj]
      obtain ⟨dj, a1, a2, a3⟩ := T3 j hj
      refine ⟨dj, a1, ?_, fun e he => ?_⟩
      · rw [u7, if_neg]
        · exact a2
        · intro e
          rw [e, hd] at a2
          exact nI_n0 (by omega) a2.symm
      · rw [u7]
        split
        · exact nI_n0 (by omega)
        · exact a3 e he
    · rw [v0, v1, v2]
      refine ⟨d0, hd0, ?_, fun e he => ?_⟩
      · rw [u7, if_pos rfl]
      · rw [u7]
        split
        · exact nI_n0 (by omega)
        · obtain ⟨i, hi, ei, -⟩ := hgo e he
          rw [ei]
          exact nI_n0 (by omega)
  · intro i j hi hj
    rcases Nat.lt_succ_iff_lt_or_eq.mp hi with hi | rfl <;> rcases Nat.lt_succ_iff_lt_or_eq.mp hj with hj | rfl
    · rw [w0 i hi, w0 j hj, w1 i hi, w1 j hj, w2 i hi, w2 j hj]
      exact T4 i j hi hj
    · rw [w0 i hi, w1 i hi, w2 i hi, v0, v1, v2]
      exact fun a b c => absurd ⟨a, b, c⟩ (hno i hi)
    · rw [w0 j hj, w1 j hj, w2 j hj, v0, v1, v2]
      exact fun a b c => absurd ⟨a.symm, b.symm, c.symm⟩ (hno j hj)
    · exact fun _ _ _ => rfl
theorem mRep.nohas {fr P : Nat → Int32} {n d0 : Nat} {ov : Bool} {S : RSt} {s p o : Int32} (h : mRep fr P n ov S) (hgo : ∀ e, e < d0 → mGo fr P s p o e) (hd : P ((hM s p o + d0) % 2048) = nI 0) : ¬ hasF S.1 s p o = true := fun e => by
  obtain ⟨j, hj, e⟩ := h.has.mp e
  exact h.2.2.2.2.2.none h.2.1 hgo hd j hj e
theorem mRep.add {fr P : Nat → Int32} {n d0 : Nat} {S : RSt} {s p o r f c d : Int32} (h : mRep fr P n false S) (hn : n < 600) (hd0 : d0 < 2048) (hgo : ∀ e, e < d0 → mGo fr P s p o e) (hd : P ((hM s p o + d0) % 2048) = nI 0) :
    mRep (addFr fr n s p o r f c d) (upd P ((hM s p o + d0) % 2048) (nI (n + 1))) (n + 1) false (addR S (mkRow s p o r f c d)) := by
  have hh2 : ¬ hasF S.1 (mkRow s p o r f c d 0) (mkRow s p o r f c d 1) (mkRow s p o r f c d 2) = true := h.nohas hgo hd
  obtain ⟨h1, h2, h3, h4, h5, h6⟩ := h
  have ha : addR S (mkRow s p o r f c d) = (S.1 ++ [mkRow s p o r f c d], false) := by
    unfold addR
    rw [if_neg (by rw [h3]; decide), if_neg hh2, if_neg (by omega)]
  rw [ha]
  refine ⟨by simp [h1], by omega, rfl, (fun e => by cases e), fun i j hi hj => ?_, h6.add hn hd0 hgo hd⟩
  rcases Nat.lt_succ_iff_lt_or_eq.mp hi with hi | rfl
  · rw [getD_app1 (by omega), ← h5 i j hi hj]
    exact addFr_lo (by omega)
  · rw [show (S.1 ++ [mkRow s p o r f c d]).getD i r0 = mkRow s p o r f c d from by rw [← h1]; exact getD_app2]
    exact addFr_hi hj
theorem mRep.full {fr P : Nat → Int32} {n d0 : Nat} {S : RSt} {s p o r f c d : Int32} (h : mRep fr P n false S) (hn : n = 600) (hgo : ∀ e, e < d0 → mGo fr P s p o e) (hd : P ((hM s p o + d0) % 2048) = nI 0) :
    mRep fr P n true (addR S (mkRow s p o r f c d)) := by
  have hh2 : ¬ hasF S.1 (mkRow s p o r f c d 0) (mkRow s p o r f c d 1) (mkRow s p o r f c d 2) = true := h.nohas hgo hd
  obtain ⟨h1, h2, h3, h4, h5, h6⟩ := h
  have ha : addR S (mkRow s p o r f c d) = (S.1, true) := by
    unfold addR
    rw [if_neg (by rw [h3]; decide), if_neg hh2, if_pos (by omega)]
  rw [ha]
  exact ⟨h1, h2, rfl, fun _ => hn, h5, h6⟩
theorem mRep.same {fr P : Nat → Int32} {n j k : Nat} {ov : Bool} {S : RSt} {s p o r f c d : Int32} (h : mRep fr P n ov S) (hk : k < 2048) (hj : j < 600) (e : P k = nI (j + 1)) (hm : fr (7 * j) = s ∧ fr (7 * j + 1) = p ∧ fr (7 * j + 2) = o) :
    mRep fr P n ov (addR S (mkRow s p o r f c d)) := by
  have hh : hasF S.1 s p o = true := h.has.mpr ⟨j, h.2.2.2.2.2.some h.2.1 hk hj e, hm⟩
  rw [addR_no (r := mkRow s p o r f c d) hh]
  exact h
theorem mRep.fullno {fr P : Nat → Int32} {n : Nat} {S : RSt} {r : Row} (h : mRep fr P n true S) : mRep fr P n true (addR S r) := by
  rw [(addR_stp S r).2 h.2.2.1]
  exact h
/-- terms -/
def tok (nl : Nat) (x : Int32) : Prop := ∃ a, a < 300 + nl ∧ x = nI a
def TOK (nl : Nat) (L : List Row) : Prop := ∀ i j, i < L.length → j < 3 → tok nl (L.getD i r0 j)
def fok (nl : Nat) (t : Fact) : Prop := tok nl t.1 ∧ tok nl t.2.1 ∧ tok nl t.2.2
theorem tok_n {nl : Nat} (a : Nat) (h : a < 300) : tok nl (nI a) := ⟨a, by omega, rfl⟩
theorem oneL_ok {nl : Nat} {f : Nat → Int32} (hf : ∀ j, j < nl → tok nl (f j)) {rule : Nat} {s p o : Int32} (hs : tok nl s) (hp : tok nl p) (ho : tok nl o) : ∀ t ∈ oneL nl f rule s p o, fok nl t := by
  unfold oneL
  split
  · split
    · rename_i c
      intro t ht
      rw [List.mem_singleton.mp ht]
      have c := of_decide_eq_true c
      exact ⟨ho, tok_n 0 (by omega), hf _ (by omega)⟩
    · intro t ht; cases ht
  · intro t ht; rw [List.mem_singleton.mp ht]; exact ⟨hp, tok_n 0 (by omega), tok_n 1 (by omega)⟩
  · intro t ht
    rcases List.mem_cons.mp ht with rfl | ht
    · exact ⟨hs, tok_n 0 (by omega), tok_n 2 (by omega)⟩
    · rw [List.mem_singleton.mp ht]; exact ⟨ho, tok_n 0 (by omega), tok_n 2 (by omega)⟩
  · split
    · intro t ht; rw [List.mem_singleton.mp ht]; exact ⟨hs, tok_n 5 (by omega), hs⟩
    · intro t ht; cases ht
  · split
    · intro t ht; rw [List.mem_singleton.mp ht]; exact ⟨hs, tok_n 4 (by omega), tok_n 2 (by omega)⟩
    · intro t ht; cases ht
  · split
    · intro t ht; rw [List.mem_singleton.mp ht]; exact ⟨hs, tok_n 4 (by omega), hs⟩
    · intro t ht; cases ht
  · split
    · intro t ht; rw [List.mem_singleton.mp ht]; exact ⟨hs, tok_n 5 (by omega), tok_n 10 (by omega)⟩
    · intro t ht; cases ht
  · split
    · intro t ht; rw [List.mem_singleton.mp ht]; exact ⟨hs, tok_n 4 (by omega), tok_n 8 (by omega)⟩
    · intro t ht; cases ht
  · intro t ht; cases ht
theorem twoL_ok {nl rule : Nat} {c d s p o : Int32} (hc : tok nl c) (hd : tok nl d) (hs : tok nl s) (ho : tok nl o) : ∀ t ∈ twoL nl rule c d s p o, fok nl t := by
  unfold twoL
  split
  · split
    · intro t ht; rw [List.mem_singleton.mp ht]; exact ⟨hs, tok_n 0 (by omega), hd⟩
    · intro t ht; cases ht
  · split
    · intro t ht; rw [List.mem_singleton.mp ht]; exact ⟨ho, tok_n 0 (by omega), hd⟩
    · intro t ht; cases ht
  · split
    · intro t ht; rw [List.mem_singleton.mp ht]; exact ⟨hc, tok_n 5 (by omega), ho⟩
    · intro t ht; cases ht
  · split
    · intro t ht; rw [List.mem_singleton.mp ht]; exact ⟨hs, hd, ho⟩
    · intro t ht; cases ht
  · split
    · intro t ht; rw [List.mem_singleton.mp ht]; exact ⟨hs, tok_n 0 (by omega), hd⟩
    · intro t ht; cases ht
  · split
    · intro t ht; rw [List.mem_singleton.mp ht]; exact ⟨hc, tok_n 4 (by omega), ho⟩
    · intro t ht; cases ht
  · intro t ht; cases ht
theorem TOK.add {nl : Nat} {S : RSt} (h : TOK nl S.1) {s p o r f c d : Int32} (hs : tok nl s) (hp : tok nl p) (ho : tok nl o) : TOK nl (addR S (mkRow s p o r f c d)).1 := by
  unfold addR
  split
  · exact h
  · split
    · exact h
    · split
      · exact h
      · intro i j hi hj
        have hi : i < (S.1 ++ [mkRow s p o r f c d]).length := hi
        show tok nl ((S.1 ++ [mkRow s p o r f c d]).getD i r0 j)
        rw [List.length_append] at hi
        have hi : i < S.1.length + 1 := hi
        rcases Nat.lt_succ_iff_lt_or_eq.mp hi with c1 | c1
        · rw [getD_app1 c1]; exact h i j c1 hj
        · rw [c1, getD_app2]
          match j, hj with
          | 0, _ => exact hs
          | 1, _ => exact hp
          | 2, _ => exact ho
theorem TOK.addL {nl : Nat} (ts : List Fact) : ∀ {S : RSt} (_ : TOK nl S.1) (rule : Nat) (x y rd : Int32), (∀ t ∈ ts, fok nl t) → TOK nl (addL S rule x y rd ts).1 := by
  induction ts with
  | nil => intro S h _ _ _ _ _; exact h
  | cons t ts ih =>
    intro S h rule x y rd ht
    obtain ⟨a, b, c⟩ := ht t List.mem_cons_self
    exact ih (h.add a b c) rule x y rd (fun u hu => ht u (List.mem_cons_of_mem _ hu))
section TK
variable {nl : Nat} {f : Nat → Int32} (hf : ∀ j, j < nl → tok nl (f j)) {L : List Row} (hL : TOK nl L) {rule : Nat} {rd : Int32}
theorem singN_tok (hf : ∀ j, j < nl → tok nl (f j)) (hL : TOK nl L) {S : RSt} (hS : TOK nl S.1) : ∀ i, i ≤ L.length → TOK nl (singN nl f L rule rd S i).1
  | 0, _ => hS
  | i + 1, h => TOK.addL _ (singN_tok hf hL hS i (by omega)) _ _ _ _ (oneL_ok hf (hL i 0 (by omega) (by omega)) (hL i 1 (by omega) (by omega)) (hL i 2 (by omega) (by omega)))
theorem pairN_tok (hL : TOK nl L) {i : Nat} (hi : i < L.length) {S : RSt} (hS : TOK nl S.1) : ∀ k, k ≤ L.length → TOK nl (pairN nl L rule rd i S k).1
  | 0, _ => hS
  | k + 1, h => TOK.addL _ (pairN_tok hL hi hS k (by omega)) _ _ _ _ (twoL_ok (hL i 0 hi (by omega)) (hL i 2 hi (by omega)) (hL k 0 (by omega) (by omega)) (hL k 2 (by omega) (by omega)))
theorem pairsN_tok (hL : TOK nl L) {S : RSt} (hS : TOK nl S.1) : ∀ i, i ≤ L.length → TOK nl (pairsN nl L rule rd S i).1
  | 0, _ => hS
  | i + 1, h => by
    show TOK nl (if L.getD i r0 1 = firstP rule then _ else _ : RSt).1
    split
    · exact pairN_tok hL (by omega) (pairsN_tok hL hS i (by omega)) _ (Nat.le_refl _)
    · exact pairsN_tok hL hS i (by omega)
theorem roundN_tok (hf : ∀ j, j < nl → tok nl (f j)) (hL : TOK nl L) : ∀ r, TOK nl (roundN nl f L rd r).1
  | 0 => hL
  | r + 1 => by
    show TOK nl (ruleS nl f L r rd (roundN nl f L rd r)).1
    unfold ruleS
    split
    · exact singN_tok hf hL (roundN_tok hf hL r) _ (Nat.le_refl _)
    · exact pairsN_tok hL (roundN_tok hf hL r) _ (Nat.le_refl _)
end TK
