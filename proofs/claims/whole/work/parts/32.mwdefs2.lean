/-! The model: more of what it leaves -/
theorem zm_up0 {nn : Nat → Nat} {k : Nat} : upd (fun j => nI (nn j)) k 0 = fun j => nI (va_up nn k 0 j) := zm_upn (v := 0)
theorem zm_up8 {nn : Nat → Nat} {k : Nat} : upd (fun j => nI (nn j)) k 8 = fun j => nI (va_up nn k 8 j) := zm_upn (v := 8)
def zm_cs (cf : Nat → Int32) : Nat → Int32
  | 0 => 0
  | i + 1 => if cf i = 0 then zm_cs cf i else zm_cs cf i + (1 <<< ((nI i) &&& 31))
def zm_kd (den : Nat → Int32) (c : Int64) (k : Nat) : Nat → Int32 := if c = 1145392729 ∨ c = 1381192786 then upd den k 1 else den
def zm_kp (pol : Nat → Int32) (c : Int64) (k : Nat) : Nat → Int32 := if c = 1380013125 ∧ pol k < 10 then upd pol k ((pol k) + 1) else pol
def zm_fz (f : Nat → Int32) : Nat → (Nat → Int32)
  | 0 => f
  | i + 1 => upd (zm_fz f i) i 0
def zm_fn (nn : Nat → Nat) : Nat → (Nat → Nat)
  | 0 => nn
  | i + 1 => va_up (zm_fn nn i) i 0
def zm_pc (ins pol : Nat → Int32) : Nat → (Nat → Int32)
  | 0 => pol
  | i + 1 => upd (zm_pc ins pol i) i (if ¬ (ins i = 0) ∧ zm_pc ins pol i i < 10 then zm_pc ins pol i i + 1 else zm_pc ins pol i i)
def zm_pn (pol : Nat → Int32) : Nat → (Nat → Int32)
  | 0 => pol
  | i + 1 => upd (zm_pn pol i) i (if 4 < zm_pn pol i i then zm_pn pol i i - 1 else 4)
def zm_psl (ins pol : Nat → Int32) (s j : Int64) : Nat → Int32 := if (4 * j) + 4096 < s then zm_pn pol 5 else zm_pc ins pol 5
