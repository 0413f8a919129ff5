/-! the rules -/
abbrev Fact : Type := Int32 × Int32 × Int32
def oneL (nl : Nat) (f : Nat → Int32) (rule : Nat) (s p o : Int32) : List Fact := match rule with
  | 0 => if litB nl o = true then [(o, nI 0, f (o.toInt.toNat - 300))] else []
  | 1 => [(p, nI 0, nI 1)]
  | 4 => [(s, nI 0, nI 2), (o, nI 0, nI 2)]
  | 6 => if p = nI 0 ∧ o = nI 1 then [(s, nI 5, s)] else []
  | 8 => if p = nI 0 ∧ o = nI 3 then [(s, nI 4, nI 2)] else []
  | 10 => if p = nI 0 ∧ o = nI 3 then [(s, nI 4, s)] else []
  | 12 => if p = nI 0 ∧ o = nI 11 then [(s, nI 5, nI 10)] else []
  | 13 => if p = nI 0 ∧ o = nI 9 then [(s, nI 4, nI 8)] else []
  | _ => []
def twoL (nl : Nat) (rule : Nat) (c d s p o : Int32) : List Fact := match rule with
  | 2 => if p = c then [(s, nI 0, d)] else []
  | 3 => if p = c then [(o, nI 0, d)] else []
  | 5 => if p = nI 5 ∧ s = d then [(c, nI 5, o)] else []
  | 7 => if p = c ∧ litB nl d = false then [(s, d, o)] else []
  | 9 => if p = nI 0 ∧ o = c then [(s, nI 0, d)] else []
  | 11 => if p = nI 4 ∧ s = d then [(c, nI 4, o)] else []
  | _ => []
def addL (S : RSt) (rule : Nat) (x y rd : Int32) (ts : List Fact) : RSt := ts.foldl (fun S t => addR S (mkRow t.1 t.2.1 t.2.2 (nI rule) x y rd)) S
def firstP (rule : Nat) : Int32 := match rule with
  | 2 => nI 6
  | 3 => nI 7
  | 5 => nI 5
  | 7 => nI 5
  | 9 => nI 4
  | 11 => nI 4
  | _ => (-1)
