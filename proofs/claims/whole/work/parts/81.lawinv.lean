/-! The law: its world, its parts -/
abbrev zl_CW (cJ cB cS : ClassId) (c0 q r v a d sv : Nat) (so sa sb sd : Nat → Nat) (cand : Int32) (low high : Int64) (surv : Int32) (vo vd : Nat → Int64) (den rch pol exg : Nat → Int32) (xp : Nat → Int64) (nn : Nat → Nat) (str : Nat → Int32) (rdl rds : Nat → Int64) (off del arr : Nat → Nat → Int64) (loc slw : Int64) (wst : Int32) (row : Nat → Int32) : va_W := ((zv_W v a d cJ cand low high surv vo vd ++ zw_A sv cS cJ so sa sb sd den rch pol exg xp nn str rdl rds off del arr) ++ zc_C c0 q v sv loc slw wst) ++ zp_W q r cB row
def zl_K (p : Program) (l : Launch) (e : Env) (s : State) (m : MethodId) (below : List Frame) (meth : Method) (c : Code) (b : Nat) (A : Nat → Prop) (dC : Nat → ClassId) (dI : Nat → Nat → Nat) (cJ cI cB cZ cS : ClassId) (Q : State → Prop) (c0 q r v a d sv mo ou : Nat) (so sa sb sd ad : Nat → Nat) (i j cells slots : Nat) : Prop :=
  ∀ (den rch pol exg str row pk ins : Nat → Int32) (xp rdl rds offm delm cam vo vd fo : Nat → Int64) (nn : Nat → Nat) (off del arr : Nat → Nat → Int64) (loc slw low high mlow mhigh : Int64) (wst thr cand surv : Int32) (H : Heap) (locs : List Loc) (ls : Array Slot), zl_I j rch pol rdl rds nn off del arr offm delm cam row pk loc wst → va_P (dC, dI) vcl ((zl_CW cJ cB cS c0 q r v a d sv so sa sb sd cand low high surv vo vd den rch pol exg xp nn str rdl rds off del arr loc slw wst row) ++ ((zm_W mo ad cI cJ cZ thr loc slw wst pk den rch pol exg xp str rdl rds nn offm delm cam ins mlow mhigh) ++ zy_O ou cJ fo)) H → va_D A ((zl_CW cJ cB cS c0 q r v a d sv so sa sb sd cand low high surv vo vd den rch pol exg xp nn str rdl rds off del arr loc slw wst row) ++ ((zm_W mo ad cI cJ cZ thr loc slw wst pk den rch pol exg xp str rdl rds nn offm delm cam ins mlow mhigh) ++ zy_O ou cJ fo)) → va_S A s.heap H locs → lv_has ls 8 [(0, .ref b), (1, .ref c0), (2, .ref mo), (3, .ref ou), (4, .int (nI (6 * i)))] → W p l e room_1 s m #[Value.ref b] below meth c H locs cells slots Q (F0 m 1147 ls [])
theorem zl_ac {X Y : va_W} (h : ∀ (_ : DecidableEq (Nat × va_E)) (a : Nat × va_E), X.count a = Y.count a) : X.Perm Y := by
  have D : DecidableEq (Nat × va_E) := fun x y => Classical.propDecidable (x = y)
  exact List.perm_iff_count.mpr (fun a => h D a)
theorem zl_f0 {V A C P : va_W} : (((V ++ A) ++ C) ++ P).Perm (C ++ ((V ++ A) ++ P)) := zl_ac (fun _ a => by simp only [List.count_append]; omega)
theorem zl_fp {V A C P : va_W} : (((V ++ A) ++ C) ++ P).Perm ((P ++ C) ++ (V ++ A)) := zl_ac (fun _ a => by simp only [List.count_append]; omega)
theorem zl_fx {V A C P K S T : va_W} (h : A.Perm (K ++ (S ++ T))) : (((V ++ A) ++ C) ++ P).Perm ((K ++ (C ++ (P ++ S))) ++ (V ++ T)) := by
  refine (List.Perm.append_right P (List.Perm.append_right C (List.Perm.append_left V h))).trans ?_
  exact zl_ac (fun _ a => by simp only [List.count_append]; omega)
section ZLO
variable {cS cJ cB : ClassId} {c0 q r v a d sv : Nat} {so sa sb sd : Nat → Nat} {cand surv wst wst2 : Int32} {low high loc slw loc2 slw2 : Int64} {vo vd : Nat → Int64} {den rch pol exg str row row2 : Nat → Int32} {xp rdl rds : Nat → Int64} {nn : Nat → Nat} {off del arr : Nat → Nat → Int64} {k : Nat}
theorem zl_Rt : zw_R sv cS cJ so sa sb sd den rch pol exg xp nn str rdl rds off del arr k = zc_S sv cS (fun k => some (so k)) ++ (zw_R sv cS cJ so sa sb sd den rch pol exg xp nn str rdl rds off del arr k).tail := by
  rcases k with _ | _ | _ | _ | _ <;> rfl
theorem zl_f1 (hk : k < 5) : (zl_CW cJ cB cS c0 q r v a d sv so sa sb sd cand low high surv vo vd den rch pol exg xp nn str rdl rds off del arr loc slw wst row).Perm ((zs_W (so k) (sa k) (sb k) (sd k) cJ (den k) (rch k) (pol k) (exg k) (xp k) (nI (nn k)) (str k) (rdl k) (rds k) (off k) (del k) (arr k) ++ (zc_C c0 q v sv loc slw wst ++ (zp_W q r cB row ++ zc_S sv cS (fun k => some (so k))))) ++ (zv_W v a d cJ cand low high surv vo vd ++ (zw_R sv cS cJ so sa sb sd den rch pol exg xp nn str rdl rds off del arr k).tail)) := by
  have h := zw_perm (cS := cS) (cJ := cJ) (sv := sv) (so := so) (sa := sa) (sb := sb) (sd := sd) (den := den) (rch := rch) (pol := pol) (exg := exg) (xp := xp) (nn := nn) (str := str) (rdl := rdl) (rds := rds) (off := off) (del := del) (arr := arr) hk
  rw [zl_Rt] at h
  exact zl_fx h
theorem zl_f1b (hk : k < 5) {den' rch' pol' exg' str' : Int32} {xp' rdl' rds' : Int64} {nn' : Nat} {off' del' arr' : Nat → Int64} {den2 rch2 pol2 exg2 str2 : Nat → Int32} {xp2 rdl2 rds2 : Nat → Int64} {nn2 : Nat → Nat} {off2 del2 arr2 : Nat → Nat → Int64}
    (e1 : va_up den k den' = den2) (e2 : va_up rch k rch' = rch2) (e3 : va_up pol k pol' = pol2) (e4 : va_up exg k exg' = exg2) (e5 : va_up xp k xp' = xp2) (e6 : va_up nn k nn' = nn2) (e7 : va_up str k str' = str2) (e8 : va_up rdl k rdl' = rdl2) (e9 : va_up rds k rds' = rds2) (e10 : va_up off k off' = off2) (e11 : va_up del k del' = del2) (e12 : va_up arr k arr' = arr2) :
    ((zs_W (so k) (sa k) (sb k) (sd k) cJ den' rch' pol' exg' xp' (nI nn') str' rdl' rds' off' del' arr' ++ (zc_C c0 q v sv loc slw wst ++ (zp_W q r cB row ++ zc_S sv cS (fun k => some (so k))))) ++ (zv_W v a d cJ cand low high surv vo vd ++ (zw_R sv cS cJ so sa sb sd den rch pol exg xp nn str rdl rds off del arr k).tail)).Perm (zl_CW cJ cB cS c0 q r v a d sv so sa sb sd cand low high surv vo vd den2 rch2 pol2 exg2 xp2 nn2 str2 rdl2 rds2 off2 del2 arr2 loc slw wst row) := by
  subst e1; subst e2; subst e3; subst e4; subst e5; subst e6; subst e7; subst e8; subst e9; subst e10; subst e11; subst e12
  have h := zw_back (cS := cS) (cJ := cJ) (sv := sv) (so := so) (sa := sa) (sb := sb) (sd := sd) (den := den) (rch := rch) (pol := pol) (exg := exg) (xp := xp) (nn := nn) (str := str) (rdl := rdl) (rds := rds) (off := off) (del := del) (arr := arr) (den' := den') (rch' := rch') (pol' := pol') (exg' := exg') (xp' := xp') (nn' := nn') (str' := str') (rdl' := rdl') (rds' := rds') (off' := off') (del' := del') (arr' := arr') hk
  rw [zl_Rt] at h
  exact (zl_fx h.symm).symm
end ZLO
theorem zl_int {x : Int32} (h : 0 ≤ x.toInt) : x = nI x.toInt.toNat := by
  apply Int32.toInt_inj.mp
  have h2 := x.toInt_lt
  have h3 : (nI x.toInt.toNat).toInt = (x.toInt.toNat : Int) := Int32.toInt_ofNat_of_lt (by omega)
  omega
theorem zl_put {x z : Int32} (h1 : ¬ (z < 1 ∨ 8 < z)) (h2 : ¬ (x < 0 ∨ 48 - z < x)) : ∃ u w, 1 ≤ w ∧ w ≤ 8 ∧ u + w ≤ 48 ∧ x = nI u ∧ z = nI w := by
  have a1 : ¬ z < 1 := fun q => h1 (Or.inl q)
  have a2 : ¬ 8 < z := fun q => h1 (Or.inr q)
  have a3 : ¬ x < 0 := fun q => h2 (Or.inl q)
  have a4 : ¬ 48 - z < x := fun q => h2 (Or.inr q)
  have t0 : (0 : Int32).toInt = 0 := rfl
  have t1 : (1 : Int32).toInt = 1 := rfl
  have t8 : (8 : Int32).toInt = 8 := rfl
  have t48 : (48 : Int32).toInt = 48 := rfl
  rw [Int32.lt_iff_toInt_lt] at a1 a2 a3 a4
  have e : (48 - z).toInt = 48 - z.toInt := by
    rw [Int32.toInt_sub, t48]
    rw [Int.bmod_eq_of_le] <;> omega
  refine ⟨x.toInt.toNat, z.toInt.toNat, by omega, by omega, by omega, zl_int (by omega), zl_int (by omega)⟩

