/-! Methods that throw, by case: the words of a throw, the contract, the throw, what passes through -/
def zx_cd : Cond → Bool
  | .castable _ _ => true
  | .declares _ => true
  | _ => false
def zx_N (U : State) : Prop := ∀ w ∈ lw_tbl, zx_cd w = true → va_Nw w U
theorem zx_ct {w : Cond} (h : zx_cd w = true) : w.onTables = true := by
  cases w <;> first | rfl | exact absurd h (by decide) | (simp only [zx_cd] at h; cases h)
theorem zx_N.moved {s U : State} (hW : s.WarmedH U.vm) (h : zx_N s) : zx_N U := by
  intro w hm hg
  have h1 := h w hm hg
  cases w
  case castable a b => exact va_Nw.warmC hW h1
  case declares x => exact va_Nw.warmD hW h1
  all_goals exact absurd hg (by simp only [zx_cd]; decide)
theorem zx_N.of {s : State} {A : Array Value} (h : ∀ w ∈ lw_tbl, w.before A s = true) : zx_N s := fun w hm hg => va_Nw.of (zx_ct hg) (h w hm)
abbrev zx_nm : List String := ["java/lang/RuntimeException", "java/lang/Exception"]
/-- what the tables say of a class that is thrown -/
def zx_E (cls : String) (ik ic : Nat) : Prop := Bundle.fit cls = true ∧ ∀ w ∈ Cond.classLink RC ik cls :: Cond.initialized cls :: vx_at0 RC ic cls zx_nm, w ∈ lw_tbl ∧ (goodWord w || zx_cd w) = true
theorem zx_E.w {cls : String} {ik ic : Nat} (h : zx_E cls ik ic) {s : State} (hT : zt_TB s) (hN : zx_N s) {A : Array Value} : ∀ w ∈ Cond.classLink RC ik cls :: Cond.initialized cls :: vx_at0 RC ic cls zx_nm, w.before A s = true := by
  intro w hw
  obtain ⟨h1, h2⟩ := h.2 w hw
  rcases Bool.or_eq_true_iff.mp h2 with g | g
  · exact hT.w h1 g
  · exact va_Nw.use (zx_ct g) (hN w h1 g)
theorem zx_E.g {cls : String} {ik ic : Nat} (h : zx_E cls ik ic) : ∀ w ∈ Cond.classLink RC ik cls :: Cond.initialized cls :: vx_at0 RC ic cls zx_nm, vx_ot w = true := by
  intro w hw
  obtain ⟨h1, h2⟩ := h.2 w hw
  unfold vx_ot
  rcases Bool.or_eq_true_iff.mp h2 with g | g
  · rw [g, Bool.or_true]
  · rw [zx_ct g, Bool.true_or]
/-- the statics of Throwable -/
def zx_Z (A : Nat → Prop) (U : State) (H : Heap) : Prop := vx_Zq Bundle.tN "UNASSIGNED_STACK" Bundle.steD A U H ∧ vx_Zq Bundle.tN "SUPPRESSED_SENTINEL" Bundle.listD A U H
theorem zx_Z.moved {A : Nat → Prop} {u U : State} {H : Heap} (hvm : u.vm.Alike U.vm) (h : zx_Z A u H) : zx_Z A U H := ⟨vx_Zq.moved hvm h.1, vx_Zq.moved hvm h.2⟩
theorem zx_Z.kept {A : Nat → Prop} {U : State} {H H1 : Heap} (h : zx_Z A U H) (hq : ∀ a : Nat, a < H.size → ¬ A a → H1[a]? = H[a]?) : zx_Z A U H1 := ⟨h.1.kept hq, h.2.kept hq⟩
theorem zx_Z.narrow {A B : Nat → Prop} {U : State} {H : Heap} (h : zx_Z A U H) (hAB : ∀ q, B q → A q) : zx_Z B U H := ⟨h.1.narrow hAB, h.2.narrow hAB⟩
def zx_B (D : va_G) (cl : List vw_C) (tys : List (ClassId × FieldType)) (ws : va_W) (sz : Nat) : State → Prop := fun U => zq_B D cl tys ws sz U ∧ zx_N U ∧ zx_Z (va_A ws sz) U U.heap
def zx_X (D : va_G) (cl : List vw_C) (cls : String) (ws w1 : va_W) (sz : Nat) : String → State → State → Prop := fun E st t => E = cls ∧ va_P D cl w1 t.heap ∧ va_D (va_A ws sz) w1 ∧ va_F (va_A ws sz) st t
abbrev zx_Q : Array Value → State → Outcome → State → Prop := fun _ _ _ _ => False
section ZX
variable {p : Program} {l : Launch} {e : Env} {R : Room} {s : State} {m : MethodId} {args : Array Value} {below : List Frame} {meth : Method} {c : Code} {H H0 : Heap} {locs : List Loc} {cells slots : Nat} {A : Nat → Prop}
variable {cc : ByteArray} {pc : Nat} {ls : Array Slot} {rest st0 As : List Value} {D : va_G} {cl : List vw_C} {tys : List (ClassId × FieldType)} {ws wc wr w1 W0 W1 : va_W} {sz : Nat} {cls : String}
theorem zx_blind {av : List Value} : FrameBlind (va_Pc av (zx_B D cl tys ws sz)) := by
  intro a U g mk q
  obtain ⟨q0, ⟨q1, qT, qP, qK, qD⟩, qN, qZ⟩ := q
  exact ⟨q0, ⟨q1, zt_TB.moved (s := U) (U := U.calling g mk a) (State.WarmedH.refl U) qT, qP, va_K.moved (u := U) (U := U.calling g mk a) (Vm.Alike.refl U.vm) qK, qD⟩, zx_N.moved (s := U) (U := U.calling g mk a) (State.WarmedH.refl U) qN, zx_Z.moved (u := U) (U := U.calling g mk a) (Vm.Alike.refl U.vm) qZ⟩
theorem zx_sub (hA : ∀ q, H0.size ≤ q → A q) (hS : va_S A H0 H locs) (hD : va_D A wc) : ∀ q, va_A wc H.size q → A q := by
  intro q h
  rcases h with ⟨k, e9, h⟩ | h
  · exact hD.2 k (q, e9) h
  · exact hA q (Nat.le_trans hS.1 h)
theorem zx_preV {C : String} {T : u_T} {N ci q0 b : Nat} {fs : List Value} (hT : zt_TB s) (hP : va_P D cl wc H) (hK : va_K D cl tys s) (hD : va_D A wc) (hN : zx_N s) (hZ : zx_Z A s s.heap) (hS : va_S A s.heap H locs) (hA : ∀ q, s.heap.size ≤ q → A q) (hc : cl[ci]? = some (C, T, N)) (he : wc[q0]? = some (b, .inr (ci, fs))) : PreV s H C b (va_Pc (.ref b :: As) (zx_B D cl tys wc H.size)) As :=
  ⟨zx_blind, va_recv hK hP hc he, fun U hU hW => ⟨rfl, ⟨by rw [hU], hT.moved hW, by rw [hU]; exact hP, va_K.moved hW.alike hK, hD.weaken (fun _ _ _ _ => trivial)⟩, hN.moved hW, by rw [hU]; exact zx_Z.moved hW.alike ((hZ.kept hS.2.1).narrow (zx_sub hA hS hD))⟩⟩
theorem zx_throw {ik ic : Nat} {Qc : Array Value → State → Outcome → State → Prop} (hexec : p.tables.exec = Jvm.exec) (hb : c.code = cc) (hlt : l.stackTraces = false) (hE : zx_E cls ik ic) (hT : zt_TB s) (hN : zx_N s) (hZ : zx_Z A s s.heap) (hown : s.vm.findClass RC = some m.cls) (hlocks : meth.locks = false) (htb : ∀ x ∈ c.exceptionTable.toList, False)
    (hsize : ls.size = c.maxLocals) (hR : 5 < R.frames ∧ 81 ≤ R.locals ∧ 1 ≤ R.cells ∧ 6 ≤ R.slots)
    (d0 : decode cc pc = .ok (.new ik, 3)) (d3 : decode cc (pc + 3) = .ok (.dup, 1)) (d4 : decode cc (pc + 4) = .ok (.invokespecial ic, 3)) (d7 : decode cc (pc + 7) = .ok (.athrow, 1))
    (hAe : va_A ws s.heap.size = A) (hP : va_P D cl w1 H) (hD : va_D A w1) (hS : va_S A s.heap H locs) :
    W p l e R s m args below meth c H locs 0 0 (vx_MQ below Qc (zx_X D cl cls ws w1 s.heap.size) args s 1 6 A) (F0 m pc ls []) := by
  subst hAe
  have hw := hE.w hT hN (A := args)
  refine vx_throw0 hexec hb hlt (own := RC) (cls := cls) (names := zx_nm) (ik := ik) (ic := ic) (A := va_A ws s.heap.size) hown hE.1 (by decide) (hw _ List.mem_cons_self) (hw _ (List.mem_cons_of_mem _ List.mem_cons_self)) (fun w h => hw w (List.mem_cons_of_mem _ (List.mem_cons_of_mem _ h))) hE.g hZ.1 hZ.2 hS hsize d0 d3 d4 d7 (fun x h => (htb x h).elim) hR.1 (by simpa using hR.2.1) (by omega) (by omega) hlocks ?_ hS.2.2 (Nat.le_refl _) (Nat.le_refl _)
  intro t _ h1 h2
  exact ⟨rfl, fun k q hk => (hP k q hk).kept (h2 q.1 (hP k q hk).lt), hD, Nat.le_trans hS.1 h1, fun q g1 g2 => (h2 q (Nat.lt_of_lt_of_le g1 hS.1)).trans (hS.2.1 q g1 g2)⟩
theorem zx_prop {Qa : State → Outcome → State → Prop} {Qc : Array Value → State → Outcome → State → Prop} (hp : W0.Perm (wc ++ wr)) (hq : (w1 ++ wr).Perm W1) (hlocks : meth.locks = false) (htb : ∀ x ∈ c.exceptionTable.toList, False) (hA : ∀ q, s.heap.size ≤ q → A q) (hAe : va_A ws s.heap.size = A) (hP : va_P D cl W0 H) (hD : va_D A W0) (hS : va_S A s.heap H locs)
    (hr : vx_Run p l e R s m args below meth c H locs 0 0 1 6 (F0 m pc ls st0) rest Qa (zx_X D cl cls wc w1 H.size) (va_A wc H.size)) (hQ : ∀ a o b, ¬ Qa a o b) :
    W p l e R s m args below meth c H locs 0 0 (vx_MQ below Qc (zx_X D cl cls ws W1 s.heap.size) args s 1 6 A) (F0 m pc ls st0) := by
  intro T hT X
  rcases hr T hT X with ⟨v, st₀, t, T', L, h0, X', hL, e1, e2, hf, st⟩ | ⟨q, st₀, t, T', L, E, ce, h0, X', hL, e1, e2, ⟨hE, hP1, hD1, hF⟩, hce, hcv, hcl, st⟩
  · exact (hQ _ _ _ hf).elim
  · subst hE
    have hDl : va_D A wc := zq_Dl (zq_Dp hp hD)
    have hsub := zx_sub hA hS hDl
    obtain ⟨hz, hk⟩ := hF
    rw [h0, ← e1] at hz hk
    rw [← e1] at hP1
    obtain ⟨hP2, hD2⟩ := zq_join (zq_Pp hp hP) (zq_Dp hp hD) hk hsub hP1 hD1
    have hS2 : va_S A s.heap T'.heap (locs ++ L) := ⟨Nat.le_trans hS.1 hz, fun q h1 h2 => (hk q (Nat.lt_of_lt_of_le h1 hS.1) (fun z => h2 (hsub q z))).trans (hS.2.1 q h1 h2), fun q hq => by
      rcases List.mem_append.mp hq with h | h
      · exact hS.2.2 q h
      · exact hsub _ (hL q h)⟩
    obtain ⟨t2, a1, b1⟩ := vx_out (p := p) (l := l) (e := e) (R := R) (args := args) (below := below) (ls := ls) (rest := rest) (Qc := Qc) (XC := zx_X D cl E ws W1 s.heap.size) (free := A) (pc := pc) (mc := 1) (ms := 6) (cells := 0 + 1) (slots := 0 + 6) (H := T'.heap) (locs := locs ++ L) (m := m) (s := s) (fun x h => (htb x h).elim) hlocks (by rw [e1]; exact hce) hcv hcl
      (fun t9 h9 _ => ⟨rfl, by rw [h9]; exact zq_Pp hq hP2, by rw [hAe]; exact zq_Dp hq hD2, by rw [hAe]; exact hS2.F h9⟩) hS2.2.2 (Nat.le_refl _) (Nat.le_refl _) T' rfl X'
    exact ⟨t2, st.trans a1, b1⟩
end ZX
set_option maxRecDepth 100000 in
theorem zx_IAE : zx_E "java/lang/IllegalArgumentException" 43 45 := by refine ⟨by decide, ?_⟩; decide +kernel
set_option maxRecDepth 100000 in
theorem zx_IOB : zx_E "java/lang/IndexOutOfBoundsException" 57 59 := by refine ⟨by decide, ?_⟩; decide +kernel
set_option maxRecDepth 100000 in
theorem zx_ISE : zx_E "java/lang/IllegalStateException" 71 73 := by refine ⟨by decide, ?_⟩; decide +kernel
set_option maxRecDepth 100000 in
theorem zx_NSE : zx_E "java/util/NoSuchElementException" 144 146 := by refine ⟨by decide, ?_⟩; decide +kernel
set_option maxRecDepth 100000 in
theorem zx_UOE : zx_E "java/lang/UnsupportedOperationException" 172 174 := by refine ⟨by decide, ?_⟩; decide +kernel
