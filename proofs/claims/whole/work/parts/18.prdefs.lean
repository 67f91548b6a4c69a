/-! The peer: definitions; the five servers' cells -/
abbrev zw_k (cJ : ClassId) (so sa sb sd : Nat → Nat) (den rch pol exg : Nat → Int32) (xp : Nat → Int64) (nn : Nat → Nat) (str : Nat → Int32) (rdl rds : Nat → Int64) (off del arr : Nat → Nat → Int64) (j : Nat) : va_W :=
  zs_W (so j) (sa j) (sb j) (sd j) cJ (den j) (rch j) (pol j) (exg j) (xp j) (nI (nn j)) (str j) (rdl j) (rds j) (off j) (del j) (arr j)
abbrev zw_A (sv : Nat) (cS cJ : ClassId) (so sa sb sd : Nat → Nat) (den rch pol exg : Nat → Int32) (xp : Nat → Int64) (nn : Nat → Nat) (str : Nat → Int32) (rdl rds : Nat → Int64) (off del arr : Nat → Nat → Int64) : va_W :=
  (sv, .inl (cS, 5, .inr (.inr (.inr (.inr (fun k => some (so k))))))) :: (zw_k cJ so sa sb sd den rch pol exg xp nn str rdl rds off del arr 0 ++ (zw_k cJ so sa sb sd den rch pol exg xp nn str rdl rds off del arr 1 ++ (zw_k cJ so sa sb sd den rch pol exg xp nn str rdl rds off del arr 2 ++ (zw_k cJ so sa sb sd den rch pol exg xp nn str rdl rds off del arr 3 ++ zw_k cJ so sa sb sd den rch pol exg xp nn str rdl rds off del arr 4))))
theorem zw_get {D : va_G} {cl : List vw_C} {H : Heap} {cS cJ : ClassId} {sv : Nat} {so sa sb sd : Nat → Nat} {den rch pol exg str : Nat → Int32} {xp rdl rds : Nat → Int64} {nn : Nat → Nat} {off del arr : Nat → Nat → Int64} (hP : va_P D cl (zw_A sv cS cJ so sa sb sd den rch pol exg xp nn str rdl rds off del arr) H) {k : Nat} (hk : k < 5) : va_P D cl (zw_k cJ so sa sb sd den rch pol exg xp nn str rdl rds off del arr k) H := by
  refine zz_Pmem hP (fun q hq => List.mem_cons_of_mem _ ?_)
  rcases (show k = 0 ∨ k = 1 ∨ k = 2 ∨ k = 3 ∨ k = 4 by omega) with h | h | h | h | h <;> subst h
  · exact List.mem_append_left _ hq
  · exact List.mem_append_right _ (List.mem_append_left _ hq)
  · exact List.mem_append_right _ (List.mem_append_right _ (List.mem_append_left _ hq))
  · exact List.mem_append_right _ (List.mem_append_right _ (List.mem_append_right _ (List.mem_append_left _ hq)))
  · exact List.mem_append_right _ (List.mem_append_right _ (List.mem_append_right _ (List.mem_append_right _ hq)))
def zv_o : Option Nat → Int32
  | none => -1
  | some b => nI b
def zv_btr (str : Nat → Int32) (vd : Nat → Int64) (x y : Nat) : Int32 := if str x < str y ∨ (str x = str y ∧ vd x < vd y) then 1 else 0
def zv_cp (surv : Int32) (str : Nat → Int32) (vd : Nat → Int64) : Nat → Option Nat
  | 0 => none
  | i + 1 => if zv_has surv (nI i) = 0 then zv_cp surv str vd i else match zv_cp surv str vd i with
    | none => some i
    | some b => if zv_btr str vd i b = 0 then some b else some i
theorem zv_cp_n {surv : Int32} {str : Nat → Int32} {vd : Nat → Int64} {i : Nat} (h : ¬ zv_has surv (nI i) = 0) (hbo : zv_cp surv str vd i = none) : zv_cp surv str vd (i + 1) = some i := by
  simp only [zv_cp]
  rw [if_neg h, hbo]
theorem zv_cp_s {surv : Int32} {str : Nat → Int32} {vd : Nat → Int64} {i b : Nat} (h : ¬ zv_has surv (nI i) = 0) (hbo : zv_cp surv str vd i = some b) (hb : zv_btr str vd i b = 0) : zv_cp surv str vd (i + 1) = some b := by
  simp only [zv_cp]
  rw [if_neg h, hbo]
  exact if_pos hb
theorem zv_cp_t {surv : Int32} {str : Nat → Int32} {vd : Nat → Int64} {i b : Nat} (h : ¬ zv_has surv (nI i) = 0) (hbo : zv_cp surv str vd i = some b) (hb : ¬ zv_btr str vd i b = 0) : zv_cp surv str vd (i + 1) = some i := by
  simp only [zv_cp]
  rw [if_neg h, hbo]
  exact if_neg hb
theorem zv_cp_lt {surv : Int32} {str : Nat → Int32} {vd : Nat → Int64} : ∀ {i b : Nat}, zv_cp surv str vd i = some b → b < i := by
  intro i
  induction i with
  | zero => intro b h; cases h
  | succ i ih =>
    intro b h
    by_cases hh : zv_has surv (nI i) = 0
    · simp only [zv_cp] at h
      rw [if_pos hh] at h
      have := ih h
      omega
    · cases hc : zv_cp surv str vd i with
      | none =>
        rw [zv_cp_n hh hc] at h
        cases h
        omega
      | some d =>
        have hd := ih hc
        by_cases hb : zv_btr str vd i d = 0
        · rw [zv_cp_s hh hc hb] at h
          cases h
          omega
        · rw [zv_cp_t hh hc hb] at h
          cases h
          omega
def zm_dn : Nat → Int32
  | 0 => -1
  | j + 1 => nI j
theorem zm_dn_m (j : Nat) : zm_dn j = (nI j) + (-1) := by
  cases j with
  | zero => decide
  | succ j => exact (pk_m1 j).symm
/-- one step of the model's search: server k, after the choice so far -/
def zm_stp (ins str : Nat → Int32) (df : Nat → Int64) (k : Nat) (c : Option Nat) : Option Nat := if ins k = 0 then c else match c with
  | none => some k
  | some b => if str k < str b ∨ (str k = str b ∧ ¬ df b < df k) then some k else some b
def zm_pe (ins str : Nat → Int32) (df : Nat → Int64) : Nat → Option Nat
  | 0 => none
  | r + 1 => zm_stp ins str df (4 - r) (zm_pe ins str df r)
theorem zm_pe_step {ins str : Nat → Int32} {df : Nat → Int64} {j r : Nat} (h : j + 1 + r = 5) : zm_pe ins str df (r + 1) = zm_stp ins str df j (zm_pe ins str df r) := by
  have e : 4 - r = j := by omega
  simp only [zm_pe]
  rw [e]
theorem zm_st0 {ins str : Nat → Int32} {df : Nat → Int64} {k : Nat} {c : Option Nat} (h : ins k = 0) (hc : c = none) : zm_stp ins str df k c = none := by
  subst hc
  exact if_pos h
theorem zm_st1 {ins str : Nat → Int32} {df : Nat → Int64} {k b : Nat} {c : Option Nat} (h : ins k = 0) (hc : c = some b) : zm_stp ins str df k c = some b := by
  subst hc
  exact if_pos h
theorem zm_st2 {ins str : Nat → Int32} {df : Nat → Int64} {k b : Nat} {c : Option Nat} (h : ¬ ins k = 0) (hc : c = some b) (hn : ¬ (str k < str b ∨ (str k = str b ∧ ¬ df b < df k))) : zm_stp ins str df k c = some b := by
  subst hc
  unfold zm_stp
  rw [if_neg h]
  exact if_neg hn
theorem zm_st3 {ins str : Nat → Int32} {df : Nat → Int64} {k : Nat} {c : Option Nat} (h : ¬ ins k = 0) (hc : c = none) : zm_stp ins str df k c = some k := by
  subst hc
  exact if_neg h
theorem zm_st4 {ins str : Nat → Int32} {df : Nat → Int64} {k b : Nat} {c : Option Nat} (h : ¬ ins k = 0) (hc : c = some b) (hn : str k < str b ∨ (str k = str b ∧ ¬ df b < df k)) : zm_stp ins str df k c = some k := by
  subst hc
  unfold zm_stp
  rw [if_neg h]
  exact if_pos hn
theorem zm_pe_lt {ins str : Nat → Int32} {df : Nat → Int64} : ∀ {r b : Nat}, zm_pe ins str df r = some b → b < 5 := by
  intro r
  induction r with
  | zero => intro b h; cases h
  | succ r ih =>
    intro b h
    simp only [zm_pe] at h
    by_cases hi : ins (4 - r) = 0
    · cases hc : zm_pe ins str df r with
      | none => rw [zm_st0 hi hc] at h; cases h
      | some d => rw [zm_st1 hi hc] at h; cases h; exact ih hc
    · cases hc : zm_pe ins str df r with
      | none => rw [zm_st3 hi hc] at h; cases h; omega
      | some d =>
        by_cases hn : str (4 - r) < str d ∨ (str (4 - r) = str d ∧ ¬ df d < df (4 - r))
        · rw [zm_st4 hi hc hn] at h; cases h; omega
        · rw [zm_st2 hi hc hn] at h; cases h; exact ih hc
