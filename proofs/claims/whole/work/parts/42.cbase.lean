/-! The client's cells; one server among five -/
abbrev zc_C (c0 q v sv : Nat) (loc slw : Int64) (wst : Int32) : va_W := [(c0, .inr (3, [.ref q, .ref sv, .ref v, .long loc, .long slw, .int wst]))]
abbrev zc_S (sv : Nat) (cS : ClassId) (g : Nat → Option Nat) : va_W := [(sv, .inl (cS, 5, .inr (.inr (.inr (.inr g)))))]
def zw_R (sv : Nat) (cS cJ : ClassId) (so sa sb sd : Nat → Nat) (den : Nat → Int32) (rch : Nat → Int32) (pol : Nat → Int32) (exg : Nat → Int32) (xp : Nat → Int64) (nn : Nat → Nat) (str : Nat → Int32) (rdl : Nat → Int64) (rds : Nat → Int64) (off : Nat → Nat → Int64) (del : Nat → Nat → Int64) (arr : Nat → Nat → Int64) : Nat → va_W
  | 0 => (sv, .inl (cS, 5, .inr (.inr (.inr (.inr (fun k => some (so k))))))) :: (zw_k cJ so sa sb sd den rch pol exg xp nn str rdl rds off del arr 1 ++ (zw_k cJ so sa sb sd den rch pol exg xp nn str rdl rds off del arr 2 ++ (zw_k cJ so sa sb sd den rch pol exg xp nn str rdl rds off del arr 3 ++ (zw_k cJ so sa sb sd den rch pol exg xp nn str rdl rds off del arr 4))))
  | 1 => (sv, .inl (cS, 5, .inr (.inr (.inr (.inr (fun k => some (so k))))))) :: (zw_k cJ so sa sb sd den rch pol exg xp nn str rdl rds off del arr 0 ++ (zw_k cJ so sa sb sd den rch pol exg xp nn str rdl rds off del arr 2 ++ (zw_k cJ so sa sb sd den rch pol exg xp nn str rdl rds off del arr 3 ++ (zw_k cJ so sa sb sd den rch pol exg xp nn str rdl rds off del arr 4))))
  | 2 => (sv, .inl (cS, 5, .inr (.inr (.inr (.inr (fun k => some (so k))))))) :: (zw_k cJ so sa sb sd den rch pol exg xp nn str rdl rds off del arr 0 ++ (zw_k cJ so sa sb sd den rch pol exg xp nn str rdl rds off del arr 1 ++ (zw_k cJ so sa sb sd den rch pol exg xp nn str rdl rds off del arr 3 ++ (zw_k cJ so sa sb sd den rch pol exg xp nn str rdl rds off del arr 4))))
  | 3 => (sv, .inl (cS, 5, .inr (.inr (.inr (.inr (fun k => some (so k))))))) :: (zw_k cJ so sa sb sd den rch pol exg xp nn str rdl rds off del arr 0 ++ (zw_k cJ so sa sb sd den rch pol exg xp nn str rdl rds off del arr 1 ++ (zw_k cJ so sa sb sd den rch pol exg xp nn str rdl rds off del arr 2 ++ (zw_k cJ so sa sb sd den rch pol exg xp nn str rdl rds off del arr 4))))
  | _ => (sv, .inl (cS, 5, .inr (.inr (.inr (.inr (fun k => some (so k))))))) :: (zw_k cJ so sa sb sd den rch pol exg xp nn str rdl rds off del arr 0 ++ (zw_k cJ so sa sb sd den rch pol exg xp nn str rdl rds off del arr 1 ++ (zw_k cJ so sa sb sd den rch pol exg xp nn str rdl rds off del arr 2 ++ (zw_k cJ so sa sb sd den rch pol exg xp nn str rdl rds off del arr 3))))
theorem zw_p5 {S K0 K1 K2 K3 K4 : va_W} :
    (S ++ (K0 ++ (K1 ++ (K2 ++ (K3 ++ K4))))).Perm (K0 ++ (S ++ (K1 ++ (K2 ++ (K3 ++ K4))))) ∧
    (S ++ (K0 ++ (K1 ++ (K2 ++ (K3 ++ K4))))).Perm (K1 ++ (S ++ (K0 ++ (K2 ++ (K3 ++ K4))))) ∧
    (S ++ (K0 ++ (K1 ++ (K2 ++ (K3 ++ K4))))).Perm (K2 ++ (S ++ (K0 ++ (K1 ++ (K3 ++ K4))))) ∧
    (S ++ (K0 ++ (K1 ++ (K2 ++ (K3 ++ K4))))).Perm (K3 ++ (S ++ (K0 ++ (K1 ++ (K2 ++ K4))))) ∧
    (S ++ (K0 ++ (K1 ++ (K2 ++ (K3 ++ K4))))).Perm (K4 ++ (S ++ (K0 ++ (K1 ++ (K2 ++ K3))))) := by
  have sw : ∀ {X Y Z : va_W}, (X ++ (Y ++ Z)).Perm (Y ++ (X ++ Z)) := fun {X Y Z} => List.perm_append_comm_assoc X Y Z
  refine ⟨sw, ?_, ?_, ?_, ?_⟩
  · exact (List.Perm.append_left S sw).trans sw
  · exact (List.Perm.append_left S ((List.Perm.append_left K0 sw).trans sw)).trans sw
  · exact (List.Perm.append_left S ((List.Perm.append_left K0 ((List.Perm.append_left K1 sw).trans sw)).trans sw)).trans sw
  · exact (List.Perm.append_left S ((List.Perm.append_left K0 ((List.Perm.append_left K1 ((List.Perm.append_left K2 List.perm_append_comm).trans sw)).trans sw)).trans sw)).trans sw
theorem zw_perm {cS cJ : ClassId} {sv : Nat} {so sa sb sd : Nat → Nat} {den : Nat → Int32} {rch : Nat → Int32} {pol : Nat → Int32} {exg : Nat → Int32} {xp : Nat → Int64} {nn : Nat → Nat} {str : Nat → Int32} {rdl : Nat → Int64} {rds : Nat → Int64} {off : Nat → Nat → Int64} {del : Nat → Nat → Int64} {arr : Nat → Nat → Int64} {k : Nat} (hk : k < 5) : (zw_A sv cS cJ so sa sb sd den rch pol exg xp nn str rdl rds off del arr).Perm (zw_k cJ so sa sb sd den rch pol exg xp nn str rdl rds off del arr k ++ zw_R sv cS cJ so sa sb sd den rch pol exg xp nn str rdl rds off del arr k) := by
  obtain ⟨h0, h1, h2, h3, h4⟩ := @zw_p5 [(sv, .inl (cS, 5, .inr (.inr (.inr (.inr (fun k => some (so k)))))))] (zw_k cJ so sa sb sd den rch pol exg xp nn str rdl rds off del arr 0) (zw_k cJ so sa sb sd den rch pol exg xp nn str rdl rds off del arr 1) (zw_k cJ so sa sb sd den rch pol exg xp nn str rdl rds off del arr 2) (zw_k cJ so sa sb sd den rch pol exg xp nn str rdl rds off del arr 3) (zw_k cJ so sa sb sd den rch pol exg xp nn str rdl rds off del arr 4)
  rcases (show k = 0 ∨ k = 1 ∨ k = 2 ∨ k = 3 ∨ k = 4 by omega) with h | h | h | h | h <;> subst h
  · exact h0
  · exact h1
  · exact h2
  · exact h3
  · exact h4
theorem zw_back {cS cJ : ClassId} {sv : Nat} {so sa sb sd : Nat → Nat} {den : Nat → Int32} {rch : Nat → Int32} {pol : Nat → Int32} {exg : Nat → Int32} {xp : Nat → Int64} {nn : Nat → Nat} {str : Nat → Int32} {rdl : Nat → Int64} {rds : Nat → Int64} {off : Nat → Nat → Int64} {del : Nat → Nat → Int64} {arr : Nat → Nat → Int64} {den' : Int32} {rch' : Int32} {pol' : Int32} {exg' : Int32} {xp' : Int64} {nn' : Nat} {str' : Int32} {rdl' : Int64} {rds' : Int64} {off' : Nat → Int64} {del' : Nat → Int64} {arr' : Nat → Int64} {k : Nat} (hk : k < 5) : (zs_W (so k) (sa k) (sb k) (sd k) cJ den' rch' pol' exg' xp' (nI nn') str' rdl' rds' off' del' arr' ++ zw_R sv cS cJ so sa sb sd den rch pol exg xp nn str rdl rds off del arr k).Perm (zw_A sv cS cJ so sa sb sd (va_up den k den') (va_up rch k rch') (va_up pol k pol') (va_up exg k exg') (va_up xp k xp') (va_up nn k nn') (va_up str k str') (va_up rdl k rdl') (va_up rds k rds') (va_up off k off') (va_up del k del') (va_up arr k arr')) := by
  have h := zw_perm (cS := cS) (cJ := cJ) (sv := sv) (so := so) (sa := sa) (sb := sb) (sd := sd) (den := va_up den k den') (rch := va_up rch k rch') (pol := va_up pol k pol') (exg := va_up exg k exg') (xp := va_up xp k xp') (nn := va_up nn k nn') (str := va_up str k str') (rdl := va_up rdl k rdl') (rds := va_up rds k rds') (off := va_up off k off') (del := va_up del k del') (arr := va_up arr k arr') hk
  rcases (show k = 0 ∨ k = 1 ∨ k = 2 ∨ k = 3 ∨ k = 4 by omega) with e | e | e | e | e <;> subst e <;> exact h.symm
theorem va_up_id {α : Type} (f : Nat → α) (k : Nat) : va_up f k (f k) = f := by
  funext j
  unfold va_up
  by_cases h : j = k
  · rw [if_pos h, h]
  · rw [if_neg h]
section ZCP
variable {p : Program} {l : Launch} {e : Env} {R : Room} {s : State} {m : MethodId} {args : Array Value} {below : List Frame} {meth : Method} {c : Code} {H H0 : Heap} {locs : List Loc} {cells slots : Nat} {Q : State → Prop} {A : Nat → Prop}
variable {cc : ByteArray} {pc : Nat} {ls : Array Slot} {rest st0 : List Value} {D : va_G} {cl : List vw_C} {wc wr w1 W0 W1 : va_W}
theorem zq_callP (hp : W0.Perm (wc ++ wr)) (hq : (w1 ++ wr).Perm W1) {ov : Option Value} {av : Array Value} (hr : va_Run p l e R s m args below meth c H locs cells slots 0 0 (F0 m pc ls st0) rest (zq_Q D cl ov wc w1 H.size av) (va_A wc H.size)) (hP : va_P D cl W0 H) (hD : va_D A W0) (hS : va_S A H0 H locs) (hA : ∀ q, H0.size ≤ q → A q)
    (kk : ∀ (H1 : Heap) (locs1 : List Loc), va_P D cl W1 H1 → va_D A W1 → va_S A H0 H1 locs1 → W p l e R s m args below meth c H1 locs1 cells slots Q (F0 m (pc + 3) ls (ov.toList ++ rest))) : W p l e R s m args below meth c H locs cells slots Q (F0 m pc ls st0) :=
  zq_call hr (zq_Pp hp hP) (zq_Dp hp hD) hS hA (fun H1 l1 h1 h2 h3 => kk H1 l1 (zq_Pp hq h1) (zq_Dp hq h2) h3)
theorem zz_aret {a : Nat} {C : String} (hexec : p.tables.exec = Jvm.exec) (hb : c.code = cc) (hr : meth.sig.returnType = some (.object C)) (hlocks : meth.locks = false) (hdg : decode cc pc = .ok (.areturn, 1)) :
    W p l e R s m args below meth c s.heap [] 0 0 (MQ below (zz_Q (.ref a)) args s 0 0 (fun _ => False)) (F0 m pc ls [.ref a]) :=
  W.aret hexec hb hr (Or.inl ⟨_, rfl⟩) (Or.inr ⟨_, rfl⟩) (fun t ht _ => ⟨rfl, ht⟩) (fun q h => by cases h) hdg hlocks
end ZCP
theorem zc_pp {S C P G : va_W} : (S ++ (C ++ (P ++ G))).Perm (P ++ (S ++ (C ++ G))) := (List.Perm.append_left S (List.perm_append_comm_assoc C P G)).trans (List.perm_append_comm_assoc S P _)
theorem zc_vk {V A C K R : va_W} (h : A.Perm (K ++ R)) : ((V ++ A) ++ C).Perm (K ++ ((V ++ R) ++ C)) := by
  rw [List.append_assoc, List.append_assoc]
  refine (List.Perm.append_left V (List.Perm.append_right C h)).trans ?_
  rw [List.append_assoc]
  exact List.perm_append_comm_assoc V K (R ++ C)
theorem zc_kv {V A C K R : va_W} (h : (K ++ R).Perm A) : (K ++ ((V ++ R) ++ C)).Perm ((V ++ A) ++ C) := (zc_vk h.symm).symm
