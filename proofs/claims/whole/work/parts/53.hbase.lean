/-! The law's helpers: a call that throws is caught here -/
abbrev zy_O (ou : Nat) (cJ : ClassId) (f : Nat → Int64) : va_W := [(ou, .inl (cJ, 1, .inr (.inl f)))]
abbrev zy_X : String → State → State → Prop := fun _ _ _ => False
def zy_C (U : State) : Prop := va_Nc "java/lang/IndexOutOfBoundsException" "java/lang/IllegalArgumentException" U ∧ va_Nc "java/lang/IllegalStateException" "java/lang/IndexOutOfBoundsException" U ∧ va_Nc "java/lang/IllegalArgumentException" "java/lang/IndexOutOfBoundsException" U ∧ va_Nc "java/lang/IllegalStateException" "java/lang/IllegalArgumentException" U ∧ va_Nc "java/util/NoSuchElementException" "java/lang/IndexOutOfBoundsException" U ∧ va_Nc "java/lang/UnsupportedOperationException" "java/lang/IllegalStateException" U
theorem zy_C.moved {u U : State} (hvm : u.vm.Alike U.vm) (h : zy_C u) : zy_C U := by
  obtain ⟨h1, h2, h3, h4, h5, h6⟩ := h
  exact ⟨h1.moved hvm, h2.moved hvm, h3.moved hvm, h4.moved hvm, h5.moved hvm, h6.moved hvm⟩
def zy_B (D : va_G) (cl : List vw_C) (tys : List (ClassId × FieldType)) (ws : va_W) (sz : Nat) : State → Prop := fun U => zx_B D cl tys ws sz U ∧ zy_C U
theorem zy_p0 {α : Type} {P : α → Prop} : ∀ z ∈ ([] : List α), P z := fun _ h => nomatch h
theorem zy_pc {α : Type} {P : α → Prop} {a : α} {r : List α} (h : P a) (t : ∀ z ∈ r, P z) : ∀ z ∈ a :: r, P z := by
  intro z hz
  rcases List.mem_cons.mp hz with e | e
  · rw [e]; exact h
  · exact t z e
def zt_H (y : MethodName) (bytes : ByteArray) (maxL : Nat) (ret : Option FieldType) (hh : List (Nat × Nat × Nat × Nat)) (n : Nat) : Prop := Cond.codeWith y bytes maxL ret hh ∈ lw_tbl ∧ Cond.initialized y.cls ∈ lw_tbl ∧ y.cls ≠ "java/lang/invoke/MethodHandle" ∧ y.cls ≠ "java/lang/invoke/VarHandle" ∧ (parseMethodDescriptor y.desc).map (fun d => d.parameters.length) = some n ∧ Cond.static y ∈ lw_tbl
section ZY
variable {p : Program} {l : Launch} {e : Env} {R : Room} {s : State} {m : MethodId} {args : Array Value} {below : List Frame} {meth : Method} {c : Code} {H H0 : Heap} {locs : List Loc} {cells slots mc ms : Nat} {A : Nat → Prop} {Q : State → Prop}
variable {cc : ByteArray} {pc : Nat} {ls : Array Slot} {rest st0 As : List Value} {D : va_G} {cl : List vw_C} {tys : List (ClassId × FieldType)} {ws wc wr w1 W0 W1 : va_W} {sz : Nat} {cls own : String} {hh : List (Nat × Nat × Nat × Nat)} {index maxL n : Nat} {y : MethodName} {bytes : ByteArray} {ret : Option FieldType} {rm : Room}
theorem zt_ch (hT : zt_TB s) (hm : zt_H y bytes maxL ret hh n) (hl : Cond.methodLink own index y ∈ lw_tbl) (hR : rm.frames + 1 ≤ R.frames ∧ 8 + (maxL + 11) + rm.locals ≤ R.locals) : vx_CSW R s args own index y bytes maxL ret hh [Cond.codeWith y bytes maxL ret hh] rm rm.cells rm.slots n := by
  obtain ⟨h1, h2, h3, h4, h5, h6⟩ := hm
  refine ⟨⟨rfl, rfl, hR.1, hR.2, ?_, List.mem_cons_self⟩, hT.w h1, hT.w h2, ⟨h3, h4⟩, fun sig h => ?_, hT.w hl, hT.w h6⟩
  · intro w hw a' U hW
    have hw9 : w = Cond.codeWith y bytes maxL ret hh := by simpa using hw
    subst hw9
    exact (hT.moved hW).w h1
  · rw [h] at h5
    exact (Option.some.inj h5).symm
theorem zy_blind {av : List Value} : FrameBlind (va_Pc av (zy_B D cl tys ws sz)) := by
  intro a U g mk q
  obtain ⟨q0, q1, q2⟩ := q
  have h := zx_blind (D := D) (cl := cl) (tys := tys) (ws := ws) (sz := sz) (av := av) a U g mk ⟨q0, q1⟩
  exact ⟨h.1, h.2, zy_C.moved (u := U) (U := U.calling g mk a) (Vm.Alike.refl U.vm) q2⟩
theorem zy_preS (hT : zt_TB s) (hP : va_P D cl wc H) (hK : va_K D cl tys s) (hD : va_D A wc) (hN : zx_N s) (hC : zy_C s) (hZ : zx_Z A s s.heap) (hS : va_S A s.heap H locs) (hA : ∀ q, s.heap.size ≤ q → A q) : PreS s H (va_Pc As (zy_B D cl tys wc H.size)) As :=
  ⟨zy_blind, fun U hU hW => ⟨rfl, ⟨⟨by rw [hU], hT.moved hW, by rw [hU]; exact hP, va_K.moved hW.alike hK, hD.weaken (fun _ _ _ _ => trivial)⟩, hN.moved hW, by rw [hU]; exact zx_Z.moved hW.alike ((hZ.kept hS.2.1).narrow (zx_sub hA hS hD))⟩, hC.moved hW.alike⟩⟩
/-- a helper never lets anything out -/
theorem zy_run {g : JFrame} {Qa : State → Outcome → State → Prop} {free : Addr → Prop} (hr : vx_Run p l e R s m args below meth c H locs cells slots mc ms g rest Qa zy_X free) : va_Run p l e R s m args below meth c H locs cells slots mc ms g rest Qa free := by
  intro T hT X
  rcases hr T hT X with h | ⟨q, st₀, t, T', L, E, ce, h0, X', hL, e1, e2, hf, h⟩
  · exact h
  · exact hf.elim
theorem zy_iret {v r : Int32} (hexec : p.tables.exec = Jvm.exec) (hb : c.code = cc) (hr : meth.sig.returnType = some .int) (hlocks : meth.locks = false) (hdg : decode cc pc = .ok (.ireturn, 1)) (hv : v = r) (hc : cells ≤ mc) (hs : slots ≤ ms) (hAe : va_A ws s.heap.size = A) (hP : va_P D cl w1 H) (hD : va_D A w1) (hS : va_S A s.heap H locs) :
    W p l e R s m args below meth c H locs cells slots (vx_MQ below (zq_Q D cl (some (.int r)) ws w1 s.heap.size) zy_X args s mc ms A) (F0 m pc ls [.int v]) := by
  subst hv
  subst hAe
  refine W.widen hc hs (vx_ret ?_)
  exact W.iret hexec hb hr (fun t ht _ => ⟨⟨rfl, by rw [ht]; exact hP, hD⟩, hS.F ht⟩) hS.2.2 hdg hlocks
theorem zy_caught {Qa : State → Outcome → State → Prop} {x : ExceptionTableEntry} {pre suf : List ExceptionTableEntry} (htb : c.exceptionTable.toList = tableOf hh) (hsplit : tableOf hh = pre ++ x :: suf) (hown : s.vm.findClass own = some m.cls) (hT : zt_TB s) (hN : zx_N s)
    (hpass : ∀ z ∈ pre, covers z pc = false ∨ (z.catchType ≠ 0 ∧ ∃ nm : String, (Cond.classLink own z.catchType nm).before args s = true ∧ va_Nc cls nm s)) (hcov : covers x pc = true) (hc0 : x.catchType ≠ 0) (hlink : Cond.classLink own x.catchType cls ∈ lw_tbl) (hcast : Cond.castable cls cls ∈ lw_tbl)
    (hp : W0.Perm (wc ++ wr)) (hq : (w1 ++ wr).Perm W1) (hA : ∀ q, s.heap.size ≤ q → A q) (hP : va_P D cl W0 H) (hD : va_D A W0) (hS : va_S A s.heap H locs)
    (hr : vx_Run p l e R s m args below meth c H locs 0 0 1 6 (F0 m pc ls st0) rest Qa (zx_X D cl cls wc w1 H.size) (va_A wc H.size)) (hQ : ∀ a o b, ¬ Qa a o b)
    (kk : ∀ (q : Nat) (H1 : Heap) (locs1 : List Loc), va_P D cl W1 H1 → va_D A W1 → va_S A s.heap H1 locs1 → W p l e R s m args below meth c H1 locs1 1 6 Q (F0 m x.handlerPc ls [.ref q])) :
    W p l e R s m args below meth c H locs 0 0 Q (F0 m pc ls st0) := by
  intro T hT9 X
  rcases hr T hT9 X with ⟨v, st₀, t, T', L, h0, X', hL, e1, e2, hf, st⟩ | ⟨q, st₀, t, T', L, E, ce, h0, X', hL, e1, e2, ⟨hE, hP1, hD1, hF⟩, hce, hcv, hcl, st⟩
  · exact (hQ _ _ _ hf).elim
  · subst hE
    have hDl : va_D A wc := zq_Dl (zq_Dp hp hD)
    have hsub := zx_sub hA hS hDl
    obtain ⟨hz, hk⟩ := hF
    rw [h0, ← e1] at hz hk
    rw [← e1] at hP1
    obtain ⟨hP2, hD2⟩ := zq_join (zq_Pp hp hP) (zq_Dp hp hD) hk hsub hP1 hD1
    have hS2 : va_S A s.heap T'.heap (locs ++ L) := ⟨Nat.le_trans hS.1 hz, fun q h1 h2 => (hk q (Nat.lt_of_lt_of_le h1 hS.1) (fun z => h2 (hsub q z))).trans (hS.2.1 q h1 h2), fun q hq => by
      rcases List.mem_append.mp hq with h | h
      · exact hS.2.2 q h
      · exact hsub _ (hL q h)⟩
    obtain ⟨t2, a1, b1⟩ := vx_catch (p := p) (l := l) (e := e) (R := R) (below := below) (Q := Q) (ls := ls) (rest := rest) (pc := pc) (cells := 1) (slots := 6) (H := T'.heap) (locs := locs ++ L) hown pre x suf (htb.trans hsplit) hpass hcov hc0 (hT.w hlink) (va_Nw.use rfl (hN _ hcast rfl)) (by rw [e1]; exact hce) hcv hcl (kk q T'.heap (locs ++ L) (zq_Pp hq hP2) (zq_Dp hq hD2) hS2) T' rfl X'
    exact ⟨t2, st.trans a1, b1⟩
end ZY
abbrev hhL_run : List (Nat × Nat × Nat × Nat) := [(0, 5, 8, 13)]
theorem th_L_run : zt_H yL_run cL_run 4 (some .int) hhL_run 2 := ⟨tw_233, tw_0, by decide, by decide, by decide +kernel, tw_232⟩
abbrev hhL_put : List (Nat × Nat × Nat × Nat) := [(0, 8, 11, 13), (0, 8, 15, 19)]
theorem th_L_put : zt_H yL_put cL_put 6 (some .int) hhL_put 4 := ⟨tw_310, tw_0, by decide, by decide, by decide +kernel, tw_309⟩
abbrev hhL_echo : List (Nat × Nat × Nat × Nat) := [(0, 8, 11, 19), (0, 8, 15, 25)]
theorem th_L_echo : zt_H yL_echo cL_echo 7 (some .int) hhL_echo 4 := ⟨tw_337, tw_0, by decide, by decide, by decide +kernel, tw_336⟩
abbrev hhL_send : List (Nat × Nat × Nat × Nat) := [(0, 8, 11, 19), (0, 8, 14, 25)]
theorem th_L_send : zt_H yL_send cL_send 4 (some .int) hhL_send 3 := ⟨tw_365, tw_0, by decide, by decide, by decide +kernel, tw_364⟩
abbrev hhL_receive : List (Nat × Nat × Nat × Nat) := [(0, 9, 12, 19), (0, 9, 15, 13), (0, 9, 18, 25)]
theorem th_L_receive : zt_H yL_receive cL_receive 4 (some .int) hhL_receive 3 := ⟨tw_376, tw_0, by decide, by decide, by decide +kernel, tw_375⟩
abbrev hhL_reach : List (Nat × Nat × Nat × Nat) := [(0, 9, 12, 19)]
theorem th_L_reach : zt_H yL_reach cL_reach 4 (some .int) hhL_reach 3 := ⟨tw_442, tw_0, by decide, by decide, by decide +kernel, tw_441⟩
abbrev hhL_poll : List (Nat × Nat × Nat × Nat) := [(0, 9, 12, 19)]
theorem th_L_poll : zt_H yL_poll cL_poll 4 (some .int) hhL_poll 3 := ⟨tw_449, tw_0, by decide, by decide, by decide +kernel, tw_448⟩
abbrev hhL_samples : List (Nat × Nat × Nat × Nat) := [(0, 9, 12, 19)]
theorem th_L_samples : zt_H yL_samples cL_samples 4 (some .int) hhL_samples 3 := ⟨tw_456, tw_0, by decide, by decide, by decide +kernel, tw_455⟩
abbrev hhL_offset : List (Nat × Nat × Nat × Nat) := [(0, 8, 11, 19), (0, 8, 14, 47)]
theorem th_L_offset : zt_H yL_offset cL_offset 4 (some .int) hhL_offset 3 := ⟨tw_463, tw_0, by decide, by decide, by decide +kernel, tw_462⟩
abbrev hhL_delay : List (Nat × Nat × Nat × Nat) := [(0, 8, 11, 19), (0, 8, 14, 47)]
theorem th_L_delay : zt_H yL_delay cL_delay 4 (some .int) hhL_delay 3 := ⟨tw_491, tw_0, by decide, by decide, by decide +kernel, tw_490⟩
abbrev hhL_jitter : List (Nat × Nat × Nat × Nat) := [(0, 8, 11, 19), (0, 8, 14, 47)]
theorem th_L_jitter : zt_H yL_jitter cL_jitter 4 (some .int) hhL_jitter 3 := ⟨tw_502, tw_0, by decide, by decide, by decide +kernel, tw_501⟩
abbrev hhL_distance : List (Nat × Nat × Nat × Nat) := [(0, 8, 11, 19), (0, 8, 14, 47)]
theorem th_L_distance : zt_H yL_distance cL_distance 4 (some .int) hhL_distance 3 := ⟨tw_513, tw_0, by decide, by decide, by decide +kernel, tw_512⟩
abbrev hhL_low : List (Nat × Nat × Nat × Nat) := [(0, 7, 10, 47)]
theorem th_L_low : zt_H yL_low cL_low 3 (some .int) hhL_low 2 := ⟨tw_521, tw_0, by decide, by decide, by decide +kernel, tw_520⟩
abbrev hhL_high : List (Nat × Nat × Nat × Nat) := [(0, 7, 10, 47)]
theorem th_L_high : zt_H yL_high cL_high 3 (some .int) hhL_high 2 := ⟨tw_532, tw_0, by decide, by decide, by decide +kernel, tw_531⟩
abbrev hhL_peer : List (Nat × Nat × Nat × Nat) := [(0, 8, 11, 47)]
theorem th_L_peer : zt_H yL_peer cL_peer 3 (some .int) hhL_peer 2 := ⟨tw_539, tw_0, by decide, by decide, by decide +kernel, tw_538⟩
abbrev hhL_update : List (Nat × Nat × Nat × Nat) := [(0, 8, 11, 25), (0, 8, 14, 72)]
theorem th_L_update : zt_H yL_update cL_update 3 (some .int) hhL_update 2 := ⟨tw_562, tw_0, by decide, by decide, by decide +kernel, tw_561⟩
