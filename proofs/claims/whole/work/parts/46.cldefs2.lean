/-! The client: polls -/
theorem zc_max0 {b : Nat} (h : b < 5) : zn_maxi 0 (nI b) = nI b := by
  rcases (show b = 0 ∨ b = 1 ∨ b = 2 ∨ b = 3 ∨ b = 4 by omega) with e | e | e | e | e <;> subst e <;> decide
def zc_jit (off del arr : Nat → Nat → Int64) (loc : Int64) (nn : Nat → Nat) (k : Nat) : Int64 := zs_jit (off k) (del k) (arr k) loc (nn k)
def zc_pn (pol : Nat → Int32) : Nat → (Nat → Int32)
  | 0 => pol
  | i + 1 => va_up (zc_pn pol i) i (zn_maxi 4 ((zc_pn pol i i) - 1))
def zc_pc (surv : Int32) (pol : Nat → Int32) : Nat → (Nat → Int32)
  | 0 => pol
  | i + 1 => if zv_has surv (nI i) = 0 then zc_pc surv pol i else va_up (zc_pc surv pol i) i (zn_mini 10 ((zc_pc surv pol i i) + 1))
def zc_psl (surv : Int32) (pol : Nat → Int32) (s j : Int64) : Nat → Int32 := if (4 * j) + 4096 < s then zc_pn pol 5 else zc_pc surv pol 5
