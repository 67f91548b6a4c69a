/-! The model: the majority -/
def zm_add (c : Int32) (x : Int64) (m : Option (Int64 × Int64)) : Option (Int64 × Int64) := if c = 0 then m else match m with
  | none => some (x, x)
  | some q => some (if x < q.1 then x else q.1, if q.2 < x then x else q.2)
def zm_mj (cf : Nat → Int32) (of df : Nat → Int64) : Nat → Option (Int64 × Int64)
  | 0 => none
  | i + 1 => if cf i = 0 then zm_mj cf of df i else zm_add (zm_com cf of df (of i + df i)) (of i + df i) (zm_add (zm_com cf of df (of i - df i)) (of i - df i) (zm_mj cf of df i))
def zm_fo : Option (Int64 × Int64) → Int32
  | none => 0
  | some _ => 1
def zm_fl (low : Int64) : Option (Int64 × Int64) → Int64
  | none => low
  | some q => q.1
def zm_fh (high : Int64) : Option (Int64 × Int64) → Int64
  | none => high
  | some q => q.2
