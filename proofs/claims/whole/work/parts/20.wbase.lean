/-! Writing methods that make no cells: worlds that change -/
def zq_B (D : va_G) (cl : List vw_C) (tys : List (ClassId × FieldType)) (ws : va_W) (sz : Nat) : State → Prop := fun U => U.heap.size = sz ∧ zt_TB U ∧ va_P D cl ws U.heap ∧ va_K D cl tys U ∧ va_D (fun _ => True) ws
def zq_Q (D : va_G) (cl : List vw_C) (ov : Option Value) (ws w1 : va_W) (sz : Nat) : Array Value → State → Outcome → State → Prop := fun _ st o t => (o = .returned ov ∧ va_P D cl w1 t.heap ∧ va_D (va_A ws sz) w1) ∧ va_F (va_A ws sz) st t
theorem zq_D_iff {A : Nat → Prop} {w : va_W} : va_D A w ↔ (w.map (fun q => q.1)).Nodup ∧ ∀ q ∈ w, A q.1 := by
  constructor
  · intro h
    refine ⟨List.pairwise_iff_getElem.mpr fun i j hi hj hij he => ?_, fun q hq => ?_⟩
    · rw [List.length_map] at hi hj
      rw [List.getElem_map, List.getElem_map] at he
      have := h.1 i j _ _ (List.getElem?_eq_getElem hi) (List.getElem?_eq_getElem hj) he
      omega
    · obtain ⟨i, hi⟩ := List.getElem?_of_mem hq
      exact h.2 i q hi
  · intro h
    refine ⟨fun i j p q hi hj he => ?_, fun k q hk => h.2 q (List.mem_of_getElem? hk)⟩
    obtain ⟨hi1, hi2⟩ := List.getElem?_eq_some_iff.mp hi
    obtain ⟨hj1, hj2⟩ := List.getElem?_eq_some_iff.mp hj
    have hp := List.pairwise_iff_getElem.mp h.1
    rcases Nat.lt_trichotomy i j with hlt | heq | hgt
    · exact absurd (by rw [List.getElem_map, List.getElem_map, hi2, hj2]; exact he) (hp i j (by rw [List.length_map]; exact hi1) (by rw [List.length_map]; exact hj1) hlt)
    · exact heq
    · exact absurd (by rw [List.getElem_map, List.getElem_map, hi2, hj2]; exact he.symm) (hp j i (by rw [List.length_map]; exact hj1) (by rw [List.length_map]; exact hi1) hgt)
theorem zq_Dp {A : Nat → Prop} {w w' : va_W} (h : w.Perm w') (hD : va_D A w) : va_D A w' := by
  rw [zq_D_iff] at hD ⊢
  exact ⟨(h.map _).nodup_iff.mp hD.1, fun q hq => hD.2 q (h.mem_iff.mpr hq)⟩
theorem zq_Dl {A : Nat → Prop} {w w' : va_W} (hD : va_D A (w ++ w')) : va_D A w := by
  rw [zq_D_iff] at hD ⊢
  rw [List.map_append] at hD
  exact ⟨(List.nodup_append.mp hD.1).1, fun q hq => hD.2 q (List.mem_append_left _ hq)⟩
section ZQ
variable {p : Program} {l : Launch} {e : Env} {R : Room} {s : State} {m : MethodId} {args : Array Value} {below : List Frame} {meth : Method} {c : Code} {H H0 : Heap} {locs : List Loc} {cells slots : Nat} {Q : State → Prop} {A : Nat → Prop}
variable {cc : ByteArray} {pc : Nat} {ls : Array Slot} {rest st0 As : List Value} {D : va_G} {cl : List vw_C} {tys : List (ClassId × FieldType)} {ws wc wr w1 : va_W} {a sz : Nat}
theorem zq_Pp {w w' : va_W} (h : w.Perm w') (hP : va_P D cl w H) : va_P D cl w' H := zz_Pmem hP (fun q hq => h.mem_iff.mpr hq)
theorem zq_Pl {w w' : va_W} (hP : va_P D cl (w ++ w') H) : va_P D cl w H := zz_Pmem hP (fun q hq => List.mem_append_left _ hq)
theorem zq_Pr {w w' : va_W} (hP : va_P D cl (w ++ w') H) : va_P D cl w' H := zz_Pmem hP (fun q hq => List.mem_append_right _ hq)
theorem zq_blind {av : List Value} : FrameBlind (va_Pc av (zq_B D cl tys ws sz)) := by
  intro a U g mk q
  obtain ⟨q0, q1, qT, qP, qK, qD⟩ := q
  exact ⟨q0, q1, zt_TB.moved (s := U) (U := U.calling g mk a) (State.WarmedH.refl U) qT, qP, va_K.moved (u := U) (U := U.calling g mk a) (Vm.Alike.refl U.vm) qK, qD⟩
theorem zq_preS (hT : zt_TB s) (hP : va_P D cl wc H) (hK : va_K D cl tys s) (hD : va_D A wc) : PreS s H (va_Pc As (zq_B D cl tys wc H.size)) As :=
  ⟨zq_blind, fun U hU hW => ⟨rfl, by rw [hU], hT.moved hW, by rw [hU]; exact hP, va_K.moved hW.alike hK, hD.weaken (fun _ _ _ _ => trivial)⟩⟩
theorem zq_preV {C : String} {T : u_T} {N ci q0 b : Nat} {fs : List Value} (hT : zt_TB s) (hP : va_P D cl wc H) (hK : va_K D cl tys s) (hD : va_D A wc) (hc : cl[ci]? = some (C, T, N)) (he : wc[q0]? = some (b, .inr (ci, fs))) : PreV s H C b (va_Pc (.ref b :: As) (zq_B D cl tys wc H.size)) As :=
  ⟨zq_blind, va_recv hK hP hc he, fun U hU hW => ⟨rfl, by rw [hU], hT.moved hW, by rw [hU]; exact hP, va_K.moved hW.alike hK, hD.weaken (fun _ _ _ _ => trivial)⟩⟩
/-- behind a call: the callee's cells as it left them, the others as they were -/
theorem zq_join {H1 : Heap} (hP : va_P D cl (wc ++ wr) H) (hD : va_D A (wc ++ wr)) (hk : ∀ q : Nat, q < H.size → ¬ va_A wc H.size q → H1[q]? = H[q]?) (hF : ∀ q, va_A wc H.size q → A q) (hP1 : va_P D cl w1 H1) (hD1 : va_D (va_A wc H.size) w1) : va_P D cl (w1 ++ wr) H1 ∧ va_D A (w1 ++ wr) := by
  have hout : ∀ (k : Nat) (q : Nat × va_E), wr[k]? = some q → q.1 < H.size ∧ ¬ va_A wc H.size q.1 := by
    intro k q hq
    have hq2 : (wc ++ wr)[wc.length + k]? = some q := by
      rw [List.getElem?_append_right (Nat.le_add_right _ _), Nat.add_sub_cancel_left]
      exact hq
    have hl := (hP _ q hq2).lt
    refine ⟨hl, fun h => ?_⟩
    rcases h with ⟨j, e9, h⟩ | h
    · have hj := (List.getElem?_eq_some_iff.mp h).1
      have := hD.1 j (wc.length + k) (q.1, e9) q (by rw [List.getElem?_append_left hj]; exact h) hq2 rfl
      omega
    · omega
  refine ⟨va_P.app hP1 (fun k q hq => ?_), va_D.app (hD1.weaken (fun k q _ h => hF q.1 h)) ⟨fun i j x y hi hj hxy => ?_, fun k q hq => ?_⟩ (fun i j x y hx hy hxy => ?_)⟩
  · obtain ⟨g1, g2⟩ := hout k q hq
    exact (hP (wc.length + k) q (by rw [List.getElem?_append_right (Nat.le_add_right _ _), Nat.add_sub_cancel_left]; exact hq)).kept (hk q.1 g1 g2)
  · have := hD.1 (wc.length + i) (wc.length + j) x y (by rw [List.getElem?_append_right (Nat.le_add_right _ _), Nat.add_sub_cancel_left]; exact hi) (by rw [List.getElem?_append_right (Nat.le_add_right _ _), Nat.add_sub_cancel_left]; exact hj) hxy
    omega
  · exact hD.2 (wc.length + k) q (by rw [List.getElem?_append_right (Nat.le_add_right _ _), Nat.add_sub_cancel_left]; exact hq)
  · exact (hout j y hy).2 (by rw [← hxy]; exact hD1.2 i x hx)
theorem zq_call {ov : Option Value} {av : Array Value} (hr : va_Run p l e R s m args below meth c H locs cells slots 0 0 (F0 m pc ls st0) rest (zq_Q D cl ov wc w1 H.size av) (va_A wc H.size)) (hP : va_P D cl (wc ++ wr) H) (hD : va_D A (wc ++ wr)) (hS : va_S A H0 H locs) (hA : ∀ q, H0.size ≤ q → A q)
    (kk : ∀ (H1 : Heap) (locs1 : List Loc), va_P D cl (w1 ++ wr) H1 → va_D A (w1 ++ wr) → va_S A H0 H1 locs1 → W p l e R s m args below meth c H1 locs1 cells slots Q (F0 m (pc + 3) ls (ov.toList ++ rest))) : W p l e R s m args below meth c H locs cells slots Q (F0 m pc ls st0) := by
  intro T hT X
  obtain ⟨v, st₀, t, T', L, h0, X', hL, e1, e2, ⟨⟨hv, hP1, hD1⟩, hz, hk⟩, st⟩ := hr T hT X
  cases hv
  rw [h0, ← e1] at hz hk
  rw [← e1] at hP1
  have hF : ∀ q, va_A wc H.size q → A q := by
    intro q h
    rcases h with ⟨k, e9, h⟩ | h
    · exact hD.2 k (q, e9) (by rw [List.getElem?_append_left (List.getElem?_eq_some_iff.mp h).1]; exact h)
    · exact hA q (Nat.le_trans hS.1 h)
  obtain ⟨hP2, hD2⟩ := zq_join hP hD hk hF hP1 hD1
  obtain ⟨t2, a1, b1⟩ := kk T'.heap (locs ++ L) hP2 hD2 ⟨Nat.le_trans hS.1 hz, fun q h1 h2 => (hk q (Nat.lt_of_lt_of_le h1 hS.1) (fun z => h2 (hF q z))).trans (hS.2.1 q h1 h2), fun q hq => by
    rcases List.mem_append.mp hq with h | h
    · exact hS.2.2 q h
    · exact hF _ (hL q h)⟩ T' rfl X'
  exact ⟨t2, st t2 a1, b1⟩
theorem zq_call0 {ov : Option Value} {av : Array Value} (hr : va_Run p l e R s m args below meth c H locs cells slots 0 0 (F0 m pc ls st0) rest (zq_Q D cl ov wc w1 H.size av) (va_A wc H.size)) (hP : va_P D cl wc H) (hD : va_D A wc) (hS : va_S A H0 H locs) (hA : ∀ q, H0.size ≤ q → A q)
    (kk : ∀ (H1 : Heap) (locs1 : List Loc), va_P D cl w1 H1 → va_D A w1 → va_S A H0 H1 locs1 → W p l e R s m args below meth c H1 locs1 cells slots Q (F0 m (pc + 3) ls (ov.toList ++ rest))) : W p l e R s m args below meth c H locs cells slots Q (F0 m pc ls st0) :=
  zq_call (wr := []) hr (by rw [List.append_nil]; exact hP) (by rw [List.append_nil]; exact hD) hS hA (fun H1 locs1 h1 h2 h3 => kk H1 locs1 (by rw [List.append_nil] at h1; exact h1) (by rw [List.append_nil] at h2; exact h2) h3)
theorem zq_vret (hexec : p.tables.exec = Jvm.exec) (hb : c.code = cc) (hr : meth.sig.returnType = none) (hlocks : meth.locks = false) (hdg : decode cc pc = .ok (.return_, 1)) (hAe : va_A ws s.heap.size = A) (hP : va_P D cl w1 H) (hD : va_D A w1) (hS : va_S A s.heap H locs) :
    W p l e R s m args below meth c H locs 0 0 (MQ below (zq_Q D cl none ws w1 s.heap.size) args s 0 0 A) (F0 m pc ls []) := by
  subst hAe
  exact W.vret hexec hb hr (fun t ht _ => ⟨⟨rfl, by rw [ht]; exact hP, hD⟩, hS.F ht⟩) hS.2.2 hdg hlocks
theorem zq_iret {v r : Int32} (hexec : p.tables.exec = Jvm.exec) (hb : c.code = cc) (hr : meth.sig.returnType = some .int) (hlocks : meth.locks = false) (hdg : decode cc pc = .ok (.ireturn, 1)) (hv : v = r) (hAe : va_A ws s.heap.size = A) (hP : va_P D cl w1 H) (hD : va_D A w1) (hS : va_S A s.heap H locs) :
    W p l e R s m args below meth c H locs 0 0 (MQ below (zq_Q D cl (some (.int r)) ws w1 s.heap.size) args s 0 0 A) (F0 m pc ls [.int v]) := by
  subst hv
  subst hAe
  exact W.iret hexec hb hr (fun t ht _ => ⟨⟨rfl, by rw [ht]; exact hP, hD⟩, hS.F ht⟩) hS.2.2 hdg hlocks
theorem zq_bret {v r : Int32} (hexec : p.tables.exec = Jvm.exec) (hb : c.code = cc) (hr : meth.sig.returnType = some .boolean) (hlocks : meth.locks = false) (hdg : decode cc pc = .ok (.ireturn, 1)) (hn : narrow .boolean (.int v) = .int v) (hv : v = r) (hAe : va_A ws s.heap.size = A) (hP : va_P D cl w1 H) (hD : va_D A w1) (hS : va_S A s.heap H locs) :
    W p l e R s m args below meth c H locs 0 0 (MQ below (zq_Q D cl (some (.int r)) ws w1 s.heap.size) args s 0 0 A) (F0 m pc ls [.int v]) := by
  subst hv
  subst hAe
  exact W.zret hexec hb hr hn (fun t ht _ => ⟨⟨rfl, by rw [ht]; exact hP, hD⟩, hS.F ht⟩) hS.2.2 hdg hlocks
theorem zq_lret {v r : Int64} (hexec : p.tables.exec = Jvm.exec) (hb : c.code = cc) (hr : meth.sig.returnType = some .long) (hlocks : meth.locks = false) (hdg : decode cc pc = .ok (.lreturn, 1)) (hv : v = r) (hAe : va_A ws s.heap.size = A) (hP : va_P D cl w1 H) (hD : va_D A w1) (hS : va_S A s.heap H locs) :
    W p l e R s m args below meth c H locs 0 0 (MQ below (zq_Q D cl (some (.long r)) ws w1 s.heap.size) args s 0 0 A) (F0 m pc ls [.long v]) := by
  subst hv
  subst hAe
  exact W.lret hexec hb hr (fun t ht _ => ⟨⟨rfl, by rw [ht]; exact hP, hD⟩, hS.F ht⟩) hS.2.2 hdg hlocks
theorem zq_last (hexec : p.tables.exec = Jvm.exec) (hb : c.code = cc) (hK : va_K D cl tys s) (hP : va_P D cl ws H) (hD : va_D A ws) (hS : va_S A H0 H locs) (q0 t0 : Nat) {cA : ClassId} {n : Nat} {f : Nat → Int64} (ha : ws[q0]? = some (a, .inl (cA, n, .inr (.inl f)))) (ht : tys[t0]? = some (cA, .long)) {i : Int32} {x : Int64} (k : Nat) (hi : i = nI k) (hk : k < n) (hn : n < 2 ^ 31) (hdg : decode cc pc = .ok (.lastore, 1))
    (kk : ∀ (H1 : Heap) (locs1 : List Loc), va_P D cl (ws.set q0 (a, .inl (cA, n, .inr (.inl (vp_updL f k x))))) H1 → va_D A (ws.set q0 (a, .inl (cA, n, .inr (.inl (vp_updL f k x))))) → va_S A H0 H1 locs1 → W p l e R s m args below meth c H1 locs1 cells slots Q (F0 m (pc + 1) ls rest)) : W p l e R s m args below meth c H locs cells slots Q (F0 m pc ls (.long x :: .int i :: .ref a :: rest)) := by
  subst hi
  refine va_last hexec hb hK hP hD hS q0 t0 ha ht (vp_in_nI hk hn) hdg ?_
  rw [nI_clamp (by omega)]
  exact kk
theorem zq_iast (hexec : p.tables.exec = Jvm.exec) (hb : c.code = cc) (hK : va_K D cl tys s) (hP : va_P D cl ws H) (hD : va_D A ws) (hS : va_S A H0 H locs) (q0 t0 : Nat) {cA : ClassId} {n : Nat} {f : Nat → Int32} (ha : ws[q0]? = some (a, .inl (cA, n, .inl f))) (ht : tys[t0]? = some (cA, .int)) {i : Int32} {x : Int32} (k : Nat) (hi : i = nI k) (hk : k < n) (hn : n < 2 ^ 31) (hdg : decode cc pc = .ok (.iastore, 1))
    (kk : ∀ (H1 : Heap) (locs1 : List Loc), va_P D cl (ws.set q0 (a, .inl (cA, n, .inl (upd f k x)))) H1 → va_D A (ws.set q0 (a, .inl (cA, n, .inl (upd f k x)))) → va_S A H0 H1 locs1 → W p l e R s m args below meth c H1 locs1 cells slots Q (F0 m (pc + 1) ls rest)) : W p l e R s m args below meth c H locs cells slots Q (F0 m pc ls (.int x :: .int i :: .ref a :: rest)) := by
  subst hi
  refine va_iast hexec hb hK hP hD hS q0 t0 ha ht (vp_in_nI hk hn) hdg ?_
  rw [nI_clamp (by omega)]
  exact kk
theorem zq_zast (hexec : p.tables.exec = Jvm.exec) (hb : c.code = cc) (hK : va_K D cl tys s) (hP : va_P D cl ws H) (hD : va_D A ws) (hS : va_S A H0 H locs) (q0 t0 : Nat) {cA : ClassId} {n : Nat} {f : Nat → Int32} (ha : ws[q0]? = some (a, .inl (cA, n, .inl f))) (ht : tys[t0]? = some (cA, .boolean)) {i : Int32} {x : Int32} (k : Nat) (hi : i = nI k) (hk : k < n) (hn : n < 2 ^ 31) (hx : vp_nar .boolean x = x) (hdg : decode cc pc = .ok (.bastore, 1))
    (kk : ∀ (H1 : Heap) (locs1 : List Loc), va_P D cl (ws.set q0 (a, .inl (cA, n, .inl (upd f k x)))) H1 → va_D A (ws.set q0 (a, .inl (cA, n, .inl (upd f k x)))) → va_S A H0 H1 locs1 → W p l e R s m args below meth c H1 locs1 cells slots Q (F0 m (pc + 1) ls rest)) : W p l e R s m args below meth c H locs cells slots Q (F0 m pc ls (.int x :: .int i :: .ref a :: rest)) := by
  subst hi
  refine va_zast hexec hb hK hP hD hS q0 t0 ha ht (vp_in_nI hk hn) hdg ?_
  rw [nI_clamp (by omega), hx]
  exact kk
theorem zq_bast (hexec : p.tables.exec = Jvm.exec) (hb : c.code = cc) (hK : va_K D cl tys s) (hP : va_P D cl ws H) (hD : va_D A ws) (hS : va_S A H0 H locs) (q0 t0 : Nat) {cA : ClassId} {n : Nat} {f : Nat → Int32} (ha : ws[q0]? = some (a, .inl (cA, n, .inl f))) (ht : tys[t0]? = some (cA, .byte)) {i : Int32} {x : Int32} (k : Nat) (hi : i = nI k) (hk : k < n) (hn : n < 2 ^ 31) (hx : vp_nar .byte x = x) (hdg : decode cc pc = .ok (.bastore, 1))
    (kk : ∀ (H1 : Heap) (locs1 : List Loc), va_P D cl (ws.set q0 (a, .inl (cA, n, .inl (upd f k x)))) H1 → va_D A (ws.set q0 (a, .inl (cA, n, .inl (upd f k x)))) → va_S A H0 H1 locs1 → W p l e R s m args below meth c H1 locs1 cells slots Q (F0 m (pc + 1) ls rest)) : W p l e R s m args below meth c H locs cells slots Q (F0 m pc ls (.int x :: .int i :: .ref a :: rest)) := by
  subst hi
  refine va_bast hexec hb hK hP hD hS q0 t0 ha ht (vp_in_nI hk hn) hdg ?_
  rw [nI_clamp (by omega), hx]
  exact kk
end ZQ
