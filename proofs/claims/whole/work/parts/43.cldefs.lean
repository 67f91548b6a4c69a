/-! The client: what is left -/
def zc_rea (den rch : Int32) : Int32 := if den = 0 then rch else rch + 256
def zc_ech (row : Nat → Int32) (a b c : Int64) : Nat → Int32 := zp_wr (zp_wr (zp_wr (zp_wr row 0 36 1 1) 24 a 8 8) 32 b 8 8) 40 c 8 8
