/-! The law's body: what stands all the time, calls, the script -/
def zl_E (p : Program) (s : State) (m : MethodId) (c : Code) (b L : Nat) (xs : Nat → Int32) (A : Nat → Prop) (dC : Nat → ClassId) (dI : Nat → Nat → Nat) (cJ cI cB cZ cS : ClassId) : Prop :=
  p.tables.exec = Jvm.exec ∧ c.code = code ∧ c.maxLocals = 8 ∧ s.vm.findClass RL = some m.cls ∧ zt_TB s ∧ zx_N s ∧ zy_C s ∧ zx_Z A s s.heap ∧ va_K (dC, dI) vcl (zz_T cJ cI cB cZ cS) s ∧ (∀ q, s.heap.size ≤ q → A q) ∧ va_X b L xs s s.heap ∧ b < s.heap.size ∧ ¬ A b ∧ L ≤ 3072
abbrev zl_J (x y : Int32) : Int64 := ((Int32.toInt64 x) <<< (Int32.toInt64 32 &&& 63)) ||| ((Int32.toInt64 y) &&& 4294967295)
section ZLB
variable {p : Program} {l : Launch} {e : Env} {R : Room} {s : State} {m : MethodId} {args : Array Value} {below : List Frame} {meth : Method} {c : Code} {H H0 : Heap} {locs : List Loc} {cells slots mc ms : Nat} {Q : State → Prop} {A : Nat → Prop}
variable {cc : ByteArray} {pc : Nat} {ls : Array Slot} {rest st0 : List Value} {D : va_G} {cl : List vw_C} {wc wr w1 W0 W1 : va_W}
theorem zl_call (hp : W0.Perm (wc ++ wr)) (hq : (w1 ++ wr).Perm W1) {ov : Option Value} {av : Array Value} (hr : va_Run p l e R s m args below meth c H locs cells slots mc ms (F0 m pc ls st0) rest (zq_Q D cl ov wc w1 H.size av) (va_A wc H.size)) (hP : va_P D cl W0 H) (hD : va_D A W0) (hS : va_S A H0 H locs) (hA : ∀ q, H0.size ≤ q → A q)
    (kk : ∀ (H1 : Heap) (locs1 : List Loc), va_P D cl W1 H1 → va_D A W1 → va_S A H0 H1 locs1 → W p l e R s m args below meth c H1 locs1 (cells + mc) (slots + ms) Q (F0 m (pc + 3) ls (ov.toList ++ rest))) : W p l e R s m args below meth c H locs cells slots Q (F0 m pc ls st0) := by
  intro T hT X
  obtain ⟨v, st₀, t, T', L, h0, X', hL, e1, e2, ⟨⟨hv, hP1, hD1⟩, hz, hk⟩, st⟩ := hr T hT X
  cases hv
  rw [h0, ← e1] at hz hk
  rw [← e1] at hP1
  have hF := zx_sub hA hS (zq_Dl (zq_Dp hp hD))
  obtain ⟨hP2, hD2⟩ := zq_join (zq_Pp hp hP) (zq_Dp hp hD) hk hF hP1 hD1
  obtain ⟨t2, a1, b1⟩ := kk T'.heap (locs ++ L) (zq_Pp hq hP2) (zq_Dp hq hD2) ⟨Nat.le_trans hS.1 hz, fun q h1 h2 => (hk q (Nat.lt_of_lt_of_le h1 hS.1) (fun z => h2 (hF q z))).trans (hS.2.1 q h1 h2), fun q hq => by
    rcases List.mem_append.mp hq with h | h
    · exact hS.2.2 q h
    · exact hF _ (hL q h)⟩ T' rfl X'
  exact ⟨t2, st t2 a1, b1⟩
theorem zl_sld (hexec : p.tables.exec = Jvm.exec) (hb : c.code = cc) {b L : Nat} {xs : Nat → Int32} (hX : va_X b L xs s H0) (hbl : b < H0.size) (hbA : ¬ A b) (hS : va_S A H0 H locs) (hL : L ≤ 3072) {i : Int32} (k : Nat) (hi : i = nI k) (hk : k < L) (hdg : decode cc pc = .ok (.iaload, 1))
    (kk : W p l e R s m args below meth c H locs cells slots Q (F0 m (pc + 1) ls (.int (xs k) :: rest))) : W p l e R s m args below meth c H locs cells slots Q (F0 m pc ls (.int i :: .ref b :: rest)) := by
  subst hi
  refine va_sld hexec hb hX hbl hbA hS (vp_in_nI hk (by omega)) hdg ?_
  rw [nI_clamp (by omega)]
  exact kk
theorem zl_p1 {C M O K R : va_W} (h : C.Perm (K ++ R)) : (C ++ (M ++ O)).Perm ((K ++ O) ++ (R ++ M)) := by
  refine (List.Perm.append_right (M ++ O) h).trans ?_
  rw [List.append_assoc, List.append_assoc]
  refine List.Perm.append_left K ?_
  rw [← List.append_assoc]
  exact List.perm_append_comm
theorem zl_p2 {C M O K R : va_W} (h : (K ++ R).Perm C) : ((K ++ O) ++ (R ++ M)).Perm (C ++ (M ++ O)) := (zl_p1 h.symm).symm
theorem zl_pm {C M O : va_W} : (C ++ (M ++ O)).Perm (M ++ (C ++ O)) := List.perm_append_comm_assoc C M O
theorem zl_p3 {C G K R : va_W} (h : C.Perm (K ++ R)) : (C ++ G).Perm (K ++ (R ++ G)) := by
  rw [← List.append_assoc]
  exact List.Perm.append_right G h
end ZLB
