/-! The client: what throws for its arguments -/
set_option maxHeartbeats 4000000 in
set_option maxRecDepth 100000 in
theorem ct_C_run_bad (l : Launch) (hlt : l.stackTraces = false) {dC : Nat → ClassId} {dI : Nat → Nat → Nat} {cJ cI cB cZ cS : ClassId} {sz : Nat} {c0 q v sv : Nat} {loc slw : Int64} {wst : Int32} {x : Int64} (hx0 : x < 0 ∨ 1099511627776 < x) : vx_Met l yC_run [Cond.code yC_run cC_run 7 none] { frames := 6, cells := 1, slots := 6, locals := 81 } (va_Pc [.ref c0, .long x] (zx_B (dC, dI) vcl (zz_T cJ cI cB cZ cS) (zc_C c0 q v sv loc slw wst) sz)) zx_Q (zx_X (dC, dI) vcl "java/lang/IllegalArgumentException" (zc_C c0 q v sv loc slw wst) (zc_C c0 q v sv loc slw wst) sz) 1 6 (va_A (zc_C c0 q v sv loc slw wst) sz) := by
  refine vx_ofW (cc := cC_run) (maxL := 7) (ret := none) (by decide) rfl ?_
  intro p e s m args below meth c s₁ B hml htb hv
  obtain ⟨rfl, ⟨hsz, hT, hP, hK, hD0⟩, hN, hZ⟩ := hv
  subst hsz
  have hx := B.exec
  have hb := B.bytes
  have hr := B.returns
  have hlocks := B.notSynchronized
  have hown : s.vm.findClass RC = some m.cls := findClass_of_methodNamed B.named
  have hD := hD0.self (sz := s.heap.size)
  generalize hAe : va_A (zc_C c0 q v sv loc slw wst) s.heap.size = A at hD hZ ⊢
  have hA : ∀ q : Nat, s.heap.size ≤ q → A q := fun q h => by rw [← hAe]; exact Or.inr h
  have hS : va_S A s.heap s.heap [] := va_S.rf
  have hl := lv_entry ([.ref c0, .long x]) (n := 7) (Nat.le_of_ble_eq_true rfl)
  rw [lg_entry_eq]
  generalize (lg_sl ([.ref c0, .long x]) ++ List.replicate (7 - (lg_sl ([.ref c0, .long x])).length) Slot.unset).toArray = ls at hl ⊢
  have hl : lv_has ls 7 [(0, .ref c0), (1, .long x)] := hl
  refine lv_lload_n hx hb dC_run_0 rfl (lv_at hl 1 rfl) ?_
  refine lv_lconst (v := 0) hx hb dC_run_1 (by decide) ?_
  refine zz_llt (tgt := 14) hx hb dC_run_2 dC_run_3 (by decide) (fun h1 => ?_) (fun h1 => ?_)
  · exact zx_throw hx hb hlt zx_IAE hT hN hZ hown hlocks htb (hl.1.trans hml.symm) ⟨Nat.le_of_ble_eq_true rfl, Nat.le_of_ble_eq_true rfl, Nat.le_of_ble_eq_true rfl, Nat.le_of_ble_eq_true rfl⟩ dC_run_14 dC_run_17 dC_run_18 dC_run_21 hAe hP hD hS
  · refine lv_lload_n hx hb dC_run_6 rfl (lv_at hl 1 rfl) ?_
    refine lv_ldc2 (own := RC) (v := 1099511627776) hx hb hown (hT.w tw_239) dC_run_7 ?_
    refine zz_lle (tgt := 22) hx hb dC_run_10 dC_run_11 (by decide) (fun h2 => ?_) (fun h2 => ?_)
    · exact absurd hx0 (fun q => q.elim h1 h2)
    · exact zx_throw hx hb hlt zx_IAE hT hN hZ hown hlocks htb (hl.1.trans hml.symm) ⟨Nat.le_of_ble_eq_true rfl, Nat.le_of_ble_eq_true rfl, Nat.le_of_ble_eq_true rfl, Nat.le_of_ble_eq_true rfl⟩ dC_run_14 dC_run_17 dC_run_18 dC_run_21 hAe hP hD hS
set_option maxHeartbeats 4000000 in
set_option maxRecDepth 100000 in
theorem ct_C_put_bad (l : Launch) (hlt : l.stackTraces = false) {dC : Nat → ClassId} {dI : Nat → Nat → Nat} {cJ cI cB cZ cS : ClassId} {sz : Nat} {c0 q v sv : Nat} {loc slw : Int64} {wst : Int32} {u w : Int32} {x : Int64} (hw : w < 1 ∨ 8 < w) : vx_Met l yC_put [Cond.code yC_put cC_put 5 none] { frames := 6, cells := 1, slots := 6, locals := 81 } (va_Pc [.ref c0, .int u, .long x, .int w] (zx_B (dC, dI) vcl (zz_T cJ cI cB cZ cS) (zc_C c0 q v sv loc slw wst) sz)) zx_Q (zx_X (dC, dI) vcl "java/lang/IllegalArgumentException" (zc_C c0 q v sv loc slw wst) (zc_C c0 q v sv loc slw wst) sz) 1 6 (va_A (zc_C c0 q v sv loc slw wst) sz) := by
  refine vx_ofW (cc := cC_put) (maxL := 5) (ret := none) (by decide) rfl ?_
  intro p e s m args below meth c s₁ B hml htb hv
  obtain ⟨rfl, ⟨hsz, hT, hP, hK, hD0⟩, hN, hZ⟩ := hv
  subst hsz
  have hx := B.exec
  have hb := B.bytes
  have hr := B.returns
  have hlocks := B.notSynchronized
  have hown : s.vm.findClass RC = some m.cls := findClass_of_methodNamed B.named
  have hD := hD0.self (sz := s.heap.size)
  generalize hAe : va_A (zc_C c0 q v sv loc slw wst) s.heap.size = A at hD hZ ⊢
  have hA : ∀ q : Nat, s.heap.size ≤ q → A q := fun q h => by rw [← hAe]; exact Or.inr h
  have hS : va_S A s.heap s.heap [] := va_S.rf
  have hl := lv_entry ([.ref c0, .int u, .long x, .int w]) (n := 5) (Nat.le_of_ble_eq_true rfl)
  rw [lg_entry_eq]
  generalize (lg_sl ([.ref c0, .int u, .long x, .int w]) ++ List.replicate (5 - (lg_sl ([.ref c0, .int u, .long x, .int w])).length) Slot.unset).toArray = ls at hl ⊢
  have hl : lv_has ls 5 [(0, .ref c0), (1, .int u), (2, .long x), (4, .int w)] := hl
  refine lv_iload hx hb dC_put_0 (lv_at hl 3 rfl) ?_
  refine lv_iconst (v := 1) hx hb dC_put_2 (by decide) ?_
  refine zz_ilt (tgt := 13) hx hb dC_put_3 (by decide) (fun h1 => ?_) (fun h1 => ?_)
  · exact zx_throw hx hb hlt zx_IAE hT hN hZ hown hlocks htb (hl.1.trans hml.symm) ⟨Nat.le_of_ble_eq_true rfl, Nat.le_of_ble_eq_true rfl, Nat.le_of_ble_eq_true rfl, Nat.le_of_ble_eq_true rfl⟩ dC_put_13 dC_put_16 dC_put_17 dC_put_20 hAe hP hD hS
  · refine lv_iload hx hb dC_put_6 (lv_at hl 3 rfl) ?_
    refine lv_bipush (v := 8) hx hb dC_put_8 (by decide) ?_
    refine zz_ile (tgt := 21) hx hb dC_put_10 (by decide) (fun h2 => ?_) (fun h2 => ?_)
    · exact absurd hw (fun q => q.elim h1 h2)
    · exact zx_throw hx hb hlt zx_IAE hT hN hZ hown hlocks htb (hl.1.trans hml.symm) ⟨Nat.le_of_ble_eq_true rfl, Nat.le_of_ble_eq_true rfl, Nat.le_of_ble_eq_true rfl, Nat.le_of_ble_eq_true rfl⟩ dC_put_13 dC_put_16 dC_put_17 dC_put_20 hAe hP hD hS
set_option maxHeartbeats 4000000 in
set_option maxRecDepth 100000 in
theorem ct_C_put_out (l : Launch) (hlt : l.stackTraces = false) {dC : Nat → ClassId} {dI : Nat → Nat → Nat} {cJ cI cB cZ cS : ClassId} {sz : Nat} {c0 q v sv : Nat} {loc slw : Int64} {wst : Int32} {u w : Int32} {x : Int64} (hw : ¬ w < 1) (hw8 : ¬ 8 < w) (hu : u < 0 ∨ 48 - w < u) : vx_Met l yC_put [Cond.code yC_put cC_put 5 none] { frames := 6, cells := 1, slots := 6, locals := 81 } (va_Pc [.ref c0, .int u, .long x, .int w] (zx_B (dC, dI) vcl (zz_T cJ cI cB cZ cS) (zc_C c0 q v sv loc slw wst) sz)) zx_Q (zx_X (dC, dI) vcl "java/lang/IndexOutOfBoundsException" (zc_C c0 q v sv loc slw wst) (zc_C c0 q v sv loc slw wst) sz) 1 6 (va_A (zc_C c0 q v sv loc slw wst) sz) := by
  refine vx_ofW (cc := cC_put) (maxL := 5) (ret := none) (by decide) rfl ?_
  intro p e s m args below meth c s₁ B hml htb hv
  obtain ⟨rfl, ⟨hsz, hT, hP, hK, hD0⟩, hN, hZ⟩ := hv
  subst hsz
  have hx := B.exec
  have hb := B.bytes
  have hr := B.returns
  have hlocks := B.notSynchronized
  have hown : s.vm.findClass RC = some m.cls := findClass_of_methodNamed B.named
  have hD := hD0.self (sz := s.heap.size)
  generalize hAe : va_A (zc_C c0 q v sv loc slw wst) s.heap.size = A at hD hZ ⊢
  have hA : ∀ q : Nat, s.heap.size ≤ q → A q := fun q h => by rw [← hAe]; exact Or.inr h
  have hS : va_S A s.heap s.heap [] := va_S.rf
  have hl := lv_entry ([.ref c0, .int u, .long x, .int w]) (n := 5) (Nat.le_of_ble_eq_true rfl)
  rw [lg_entry_eq]
  generalize (lg_sl ([.ref c0, .int u, .long x, .int w]) ++ List.replicate (5 - (lg_sl ([.ref c0, .int u, .long x, .int w])).length) Slot.unset).toArray = ls at hl ⊢
  have hl : lv_has ls 5 [(0, .ref c0), (1, .int u), (2, .long x), (4, .int w)] := hl
  refine lv_iload hx hb dC_put_0 (lv_at hl 3 rfl) ?_
  refine lv_iconst (v := 1) hx hb dC_put_2 (by decide) ?_
  refine zz_ilt (tgt := 13) hx hb dC_put_3 (by decide) (fun h1 => ?_) (fun h1 => ?_)
  · exact absurd h1 hw
  · refine lv_iload hx hb dC_put_6 (lv_at hl 3 rfl) ?_
    refine lv_bipush (v := 8) hx hb dC_put_8 (by decide) ?_
    refine zz_ile (tgt := 21) hx hb dC_put_10 (by decide) (fun h2 => ?_) (fun h2 => ?_)
    · refine lv_iload_n hx hb dC_put_21 rfl (lv_at hl 1 rfl) ?_
      refine zz_zlt (tgt := 34) hx hb dC_put_22 (by decide) (fun h3 => ?_) (fun h3 => ?_)
      · exact zx_throw hx hb hlt zx_IOB hT hN hZ hown hlocks htb (hl.1.trans hml.symm) ⟨Nat.le_of_ble_eq_true rfl, Nat.le_of_ble_eq_true rfl, Nat.le_of_ble_eq_true rfl, Nat.le_of_ble_eq_true rfl⟩ dC_put_34 dC_put_37 dC_put_38 dC_put_41 hAe hP hD hS
      · refine lv_iload_n hx hb dC_put_25 rfl (lv_at hl 1 rfl) ?_
        refine lv_bipush (v := 48) hx hb dC_put_26 (by decide) ?_
        refine lv_iload hx hb dC_put_28 (lv_at hl 3 rfl) ?_
        refine lv_isub hx hb dC_put_30 ?_
        refine zz_ile (tgt := 42) hx hb dC_put_31 (by decide) (fun h4 => ?_) (fun h4 => ?_)
        · exact absurd hu (fun q => q.elim h3 h4)
        · exact zx_throw hx hb hlt zx_IOB hT hN hZ hown hlocks htb (hl.1.trans hml.symm) ⟨Nat.le_of_ble_eq_true rfl, Nat.le_of_ble_eq_true rfl, Nat.le_of_ble_eq_true rfl, Nat.le_of_ble_eq_true rfl⟩ dC_put_34 dC_put_37 dC_put_38 dC_put_41 hAe hP hD hS
    · exact absurd h2 hw8
set_option maxHeartbeats 4000000 in
set_option maxRecDepth 100000 in
theorem ct_C_serverAt_no (l : Launch) (hlt : l.stackTraces = false) {dC : Nat → ClassId} {dI : Nat → Nat → Nat} {cJ cI cB cZ cS : ClassId} {sz : Nat} {c0 q v sv : Nat} {loc slw : Int64} {wst : Int32} {k : Int32} (hk : k < 0 ∨ ¬ k < 5) : vx_Met l yC_serverAt [Cond.code yC_serverAt cC_serverAt 2 (some (.object "StrataClient$Server"))] { frames := 6, cells := 1, slots := 6, locals := 81 } (va_Pc [.ref c0, .int k] (zx_B (dC, dI) vcl (zz_T cJ cI cB cZ cS) (zc_C c0 q v sv loc slw wst) sz)) zx_Q (zx_X (dC, dI) vcl "java/lang/IndexOutOfBoundsException" (zc_C c0 q v sv loc slw wst) (zc_C c0 q v sv loc slw wst) sz) 1 6 (va_A (zc_C c0 q v sv loc slw wst) sz) := by
  refine vx_ofW (cc := cC_serverAt) (maxL := 2) (ret := (some (.object "StrataClient$Server"))) (by decide) rfl ?_
  intro p e s m args below meth c s₁ B hml htb hv
  obtain ⟨rfl, ⟨hsz, hT, hP, hK, hD0⟩, hN, hZ⟩ := hv
  subst hsz
  have hx := B.exec
  have hb := B.bytes
  have hr := B.returns
  have hlocks := B.notSynchronized
  have hown : s.vm.findClass RC = some m.cls := findClass_of_methodNamed B.named
  have hD := hD0.self (sz := s.heap.size)
  generalize hAe : va_A (zc_C c0 q v sv loc slw wst) s.heap.size = A at hD hZ ⊢
  have hA : ∀ q : Nat, s.heap.size ≤ q → A q := fun q h => by rw [← hAe]; exact Or.inr h
  have hS : va_S A s.heap s.heap [] := va_S.rf
  have hl := lv_entry ([.ref c0, .int k]) (n := 2) (Nat.le_of_ble_eq_true rfl)
  rw [lg_entry_eq]
  generalize (lg_sl ([.ref c0, .int k]) ++ List.replicate (2 - (lg_sl ([.ref c0, .int k])).length) Slot.unset).toArray = ls at hl ⊢
  have hl : lv_has ls 2 [(0, .ref c0), (1, .int k)] := hl
  refine lv_iload_n hx hb dC_serverAt_0 rfl (lv_at hl 1 rfl) ?_
  refine zz_zlt (tgt := 9) hx hb dC_serverAt_1 (by decide) (fun h1 => ?_) (fun h1 => ?_)
  · exact zx_throw hx hb hlt zx_IOB hT hN hZ hown hlocks htb (hl.1.trans hml.symm) ⟨Nat.le_of_ble_eq_true rfl, Nat.le_of_ble_eq_true rfl, Nat.le_of_ble_eq_true rfl, Nat.le_of_ble_eq_true rfl⟩ dC_serverAt_9 dC_serverAt_12 dC_serverAt_13 dC_serverAt_16 hAe hP hD hS
  · refine lv_iload_n hx hb dC_serverAt_4 rfl (lv_at hl 1 rfl) ?_
    refine lv_iconst (v := 5) hx hb dC_serverAt_5 (by decide) ?_
    refine zz_ilt (tgt := 17) hx hb dC_serverAt_6 (by decide) (fun h2 => ?_) (fun h2 => ?_)
    · exact absurd hk (fun q => q.elim h1 (fun q => q h2))
    · exact zx_throw hx hb hlt zx_IOB hT hN hZ hown hlocks htb (hl.1.trans hml.symm) ⟨Nat.le_of_ble_eq_true rfl, Nat.le_of_ble_eq_true rfl, Nat.le_of_ble_eq_true rfl, Nat.le_of_ble_eq_true rfl⟩ dC_serverAt_9 dC_serverAt_12 dC_serverAt_13 dC_serverAt_16 hAe hP hD hS
set_option maxHeartbeats 4000000 in
set_option maxRecDepth 100000 in
theorem ct_C_sampledAt_no (l : Launch) (hlt : l.stackTraces = false) {dC : Nat → ClassId} {dI : Nat → Nat → Nat} {cJ cI cB cZ cS : ClassId} {sz : Nat} {c0 q v sv : Nat} {loc slw : Int64} {wst : Int32} {k : Int32} (hk : k < 0 ∨ ¬ k < 5) : vx_Met l yC_sampledAt [Cond.code yC_sampledAt cC_sampledAt 3 (some (.object "StrataClient$Server"))] { frames := 7, cells := 1, slots := 6, locals := 102 } (va_Pc [.ref c0, .int k] (zx_B (dC, dI) vcl (zz_T cJ cI cB cZ cS) (zc_C c0 q v sv loc slw wst) sz)) zx_Q (zx_X (dC, dI) vcl "java/lang/IndexOutOfBoundsException" (zc_C c0 q v sv loc slw wst) (zc_C c0 q v sv loc slw wst) sz) 1 6 (va_A (zc_C c0 q v sv loc slw wst) sz) := by
  refine vx_ofW (cc := cC_sampledAt) (maxL := 3) (ret := (some (.object "StrataClient$Server"))) (by decide) rfl ?_
  intro p e s m args below meth c s₁ B hml htb hv
  obtain ⟨rfl, ⟨hsz, hT, hP, hK, hD0⟩, hN, hZ⟩ := hv
  subst hsz
  have hx := B.exec
  have hb := B.bytes
  have hr := B.returns
  have hlocks := B.notSynchronized
  have hown : s.vm.findClass RC = some m.cls := findClass_of_methodNamed B.named
  have hD := hD0.self (sz := s.heap.size)
  generalize hAe : va_A (zc_C c0 q v sv loc slw wst) s.heap.size = A at hD hZ ⊢
  have hA : ∀ q : Nat, s.heap.size ≤ q → A q := fun q h => by rw [← hAe]; exact Or.inr h
  have hS : va_S A s.heap s.heap [] := va_S.rf
  have hl := lv_entry ([.ref c0, .int k]) (n := 3) (Nat.le_of_ble_eq_true rfl)
  rw [lg_entry_eq]
  generalize (lg_sl ([.ref c0, .int k]) ++ List.replicate (3 - (lg_sl ([.ref c0, .int k])).length) Slot.unset).toArray = ls at hl ⊢
  have hl : lv_has ls 3 [(0, .ref c0), (1, .int k)] := hl
  refine lv_aload_n hx hb dC_sampledAt_0 rfl (lv_at hl 0 rfl) ?_
  refine lv_iload_n hx hb dC_sampledAt_1 rfl (lv_at hl 1 rfl) ?_
  exact zx_prop (List.Perm.of_eq (List.append_nil _).symm) (List.Perm.of_eq (List.append_nil _)) hlocks htb hA hAe hP hD hS (vx_runV (Ts := []) (As := [.int k]) (own := RC) ⟨hx, hb, hml, hown, fun _ h => nomatch h⟩ (ct_C_serverAt_no l hlt hk) (zt_cv hT tc_C_serverAt tv_C_serverAt tw_343 ⟨Nat.le_of_ble_eq_true rfl, Nat.le_of_ble_eq_true rfl⟩) (zx_preV (q0 := 0) hT (zq_Pl (zq_Pp (List.Perm.of_eq (List.append_nil _).symm) hP)) hK (zq_Dl (zq_Dp (List.Perm.of_eq (List.append_nil _).symm) hD)) hN hZ hS hA rfl rfl) rfl rfl hl.1 rfl (lv_room (Nat.le_of_ble_eq_true rfl)) dC_sampledAt_2 ⟨Nat.le_of_ble_eq_true rfl, Nat.le_of_ble_eq_true rfl⟩) (fun _ _ _ h => h)
set_option maxHeartbeats 4000000 in
set_option maxRecDepth 100000 in
theorem ct_C_reach_no (l : Launch) (hlt : l.stackTraces = false) {dC : Nat → ClassId} {dI : Nat → Nat → Nat} {cJ cI cB cZ cS : ClassId} {sz : Nat} {c0 q v sv : Nat} {loc slw : Int64} {wst : Int32} {k : Int32} (hk : k < 0 ∨ ¬ k < 5) : vx_Met l yC_reach [Cond.code yC_reach cC_reach 3 (some .int)] { frames := 7, cells := 1, slots := 6, locals := 102 } (va_Pc [.ref c0, .int k] (zx_B (dC, dI) vcl (zz_T cJ cI cB cZ cS) (zc_C c0 q v sv loc slw wst) sz)) zx_Q (zx_X (dC, dI) vcl "java/lang/IndexOutOfBoundsException" (zc_C c0 q v sv loc slw wst) (zc_C c0 q v sv loc slw wst) sz) 1 6 (va_A (zc_C c0 q v sv loc slw wst) sz) := by
  refine vx_ofW (cc := cC_reach) (maxL := 3) (ret := (some .int)) (by decide) rfl ?_
  intro p e s m args below meth c s₁ B hml htb hv
  obtain ⟨rfl, ⟨hsz, hT, hP, hK, hD0⟩, hN, hZ⟩ := hv
  subst hsz
  have hx := B.exec
  have hb := B.bytes
  have hr := B.returns
  have hlocks := B.notSynchronized
  have hown : s.vm.findClass RC = some m.cls := findClass_of_methodNamed B.named
  have hD := hD0.self (sz := s.heap.size)
  generalize hAe : va_A (zc_C c0 q v sv loc slw wst) s.heap.size = A at hD hZ ⊢
  have hA : ∀ q : Nat, s.heap.size ≤ q → A q := fun q h => by rw [← hAe]; exact Or.inr h
  have hS : va_S A s.heap s.heap [] := va_S.rf
  have hl := lv_entry ([.ref c0, .int k]) (n := 3) (Nat.le_of_ble_eq_true rfl)
  rw [lg_entry_eq]
  generalize (lg_sl ([.ref c0, .int k]) ++ List.replicate (3 - (lg_sl ([.ref c0, .int k])).length) Slot.unset).toArray = ls at hl ⊢
  have hl : lv_has ls 3 [(0, .ref c0), (1, .int k)] := hl
  refine lv_aload_n hx hb dC_reach_0 rfl (lv_at hl 0 rfl) ?_
  refine lv_iload_n hx hb dC_reach_1 rfl (lv_at hl 1 rfl) ?_
  exact zx_prop (List.Perm.of_eq (List.append_nil _).symm) (List.Perm.of_eq (List.append_nil _)) hlocks htb hA hAe hP hD hS (vx_runV (Ts := []) (As := [.int k]) (own := RC) ⟨hx, hb, hml, hown, fun _ h => nomatch h⟩ (ct_C_serverAt_no l hlt hk) (zt_cv hT tc_C_serverAt tv_C_serverAt tw_343 ⟨Nat.le_of_ble_eq_true rfl, Nat.le_of_ble_eq_true rfl⟩) (zx_preV (q0 := 0) hT (zq_Pl (zq_Pp (List.Perm.of_eq (List.append_nil _).symm) hP)) hK (zq_Dl (zq_Dp (List.Perm.of_eq (List.append_nil _).symm) hD)) hN hZ hS hA rfl rfl) rfl rfl hl.1 rfl (lv_room (Nat.le_of_ble_eq_true rfl)) dC_reach_2 ⟨Nat.le_of_ble_eq_true rfl, Nat.le_of_ble_eq_true rfl⟩) (fun _ _ _ h => h)
set_option maxHeartbeats 4000000 in
set_option maxRecDepth 100000 in
theorem ct_C_poll_no (l : Launch) (hlt : l.stackTraces = false) {dC : Nat → ClassId} {dI : Nat → Nat → Nat} {cJ cI cB cZ cS : ClassId} {sz : Nat} {c0 q v sv : Nat} {loc slw : Int64} {wst : Int32} {k : Int32} (hk : k < 0 ∨ ¬ k < 5) : vx_Met l yC_poll [Cond.code yC_poll cC_poll 2 (some .int)] { frames := 7, cells := 1, slots := 6, locals := 102 } (va_Pc [.ref c0, .int k] (zx_B (dC, dI) vcl (zz_T cJ cI cB cZ cS) (zc_C c0 q v sv loc slw wst) sz)) zx_Q (zx_X (dC, dI) vcl "java/lang/IndexOutOfBoundsException" (zc_C c0 q v sv loc slw wst) (zc_C c0 q v sv loc slw wst) sz) 1 6 (va_A (zc_C c0 q v sv loc slw wst) sz) := by
  refine vx_ofW (cc := cC_poll) (maxL := 2) (ret := (some .int)) (by decide) rfl ?_
  intro p e s m args below meth c s₁ B hml htb hv
  obtain ⟨rfl, ⟨hsz, hT, hP, hK, hD0⟩, hN, hZ⟩ := hv
  subst hsz
  have hx := B.exec
  have hb := B.bytes
  have hr := B.returns
  have hlocks := B.notSynchronized
  have hown : s.vm.findClass RC = some m.cls := findClass_of_methodNamed B.named
  have hD := hD0.self (sz := s.heap.size)
  generalize hAe : va_A (zc_C c0 q v sv loc slw wst) s.heap.size = A at hD hZ ⊢
  have hA : ∀ q : Nat, s.heap.size ≤ q → A q := fun q h => by rw [← hAe]; exact Or.inr h
  have hS : va_S A s.heap s.heap [] := va_S.rf
  have hl := lv_entry ([.ref c0, .int k]) (n := 2) (Nat.le_of_ble_eq_true rfl)
  rw [lg_entry_eq]
  generalize (lg_sl ([.ref c0, .int k]) ++ List.replicate (2 - (lg_sl ([.ref c0, .int k])).length) Slot.unset).toArray = ls at hl ⊢
  have hl : lv_has ls 2 [(0, .ref c0), (1, .int k)] := hl
  refine lv_aload_n hx hb dC_poll_0 rfl (lv_at hl 0 rfl) ?_
  refine lv_iload_n hx hb dC_poll_1 rfl (lv_at hl 1 rfl) ?_
  exact zx_prop (List.Perm.of_eq (List.append_nil _).symm) (List.Perm.of_eq (List.append_nil _)) hlocks htb hA hAe hP hD hS (vx_runV (Ts := []) (As := [.int k]) (own := RC) ⟨hx, hb, hml, hown, fun _ h => nomatch h⟩ (ct_C_serverAt_no l hlt hk) (zt_cv hT tc_C_serverAt tv_C_serverAt tw_343 ⟨Nat.le_of_ble_eq_true rfl, Nat.le_of_ble_eq_true rfl⟩) (zx_preV (q0 := 0) hT (zq_Pl (zq_Pp (List.Perm.of_eq (List.append_nil _).symm) hP)) hK (zq_Dl (zq_Dp (List.Perm.of_eq (List.append_nil _).symm) hD)) hN hZ hS hA rfl rfl) rfl rfl hl.1 rfl (lv_room (Nat.le_of_ble_eq_true rfl)) dC_poll_2 ⟨Nat.le_of_ble_eq_true rfl, Nat.le_of_ble_eq_true rfl⟩) (fun _ _ _ h => h)
set_option maxHeartbeats 4000000 in
set_option maxRecDepth 100000 in
theorem ct_C_samples_no (l : Launch) (hlt : l.stackTraces = false) {dC : Nat → ClassId} {dI : Nat → Nat → Nat} {cJ cI cB cZ cS : ClassId} {sz : Nat} {c0 q v sv : Nat} {loc slw : Int64} {wst : Int32} {k : Int32} (hk : k < 0 ∨ ¬ k < 5) : vx_Met l yC_samples [Cond.code yC_samples cC_samples 2 (some .int)] { frames := 7, cells := 1, slots := 6, locals := 102 } (va_Pc [.ref c0, .int k] (zx_B (dC, dI) vcl (zz_T cJ cI cB cZ cS) (zc_C c0 q v sv loc slw wst) sz)) zx_Q (zx_X (dC, dI) vcl "java/lang/IndexOutOfBoundsException" (zc_C c0 q v sv loc slw wst) (zc_C c0 q v sv loc slw wst) sz) 1 6 (va_A (zc_C c0 q v sv loc slw wst) sz) := by
  refine vx_ofW (cc := cC_samples) (maxL := 2) (ret := (some .int)) (by decide) rfl ?_
  intro p e s m args below meth c s₁ B hml htb hv
  obtain ⟨rfl, ⟨hsz, hT, hP, hK, hD0⟩, hN, hZ⟩ := hv
  subst hsz
  have hx := B.exec
  have hb := B.bytes
  have hr := B.returns
  have hlocks := B.notSynchronized
  have hown : s.vm.findClass RC = some m.cls := findClass_of_methodNamed B.named
  have hD := hD0.self (sz := s.heap.size)
  generalize hAe : va_A (zc_C c0 q v sv loc slw wst) s.heap.size = A at hD hZ ⊢
  have hA : ∀ q : Nat, s.heap.size ≤ q → A q := fun q h => by rw [← hAe]; exact Or.inr h
  have hS : va_S A s.heap s.heap [] := va_S.rf
  have hl := lv_entry ([.ref c0, .int k]) (n := 2) (Nat.le_of_ble_eq_true rfl)
  rw [lg_entry_eq]
  generalize (lg_sl ([.ref c0, .int k]) ++ List.replicate (2 - (lg_sl ([.ref c0, .int k])).length) Slot.unset).toArray = ls at hl ⊢
  have hl : lv_has ls 2 [(0, .ref c0), (1, .int k)] := hl
  refine lv_aload_n hx hb dC_samples_0 rfl (lv_at hl 0 rfl) ?_
  refine lv_iload_n hx hb dC_samples_1 rfl (lv_at hl 1 rfl) ?_
  exact zx_prop (List.Perm.of_eq (List.append_nil _).symm) (List.Perm.of_eq (List.append_nil _)) hlocks htb hA hAe hP hD hS (vx_runV (Ts := []) (As := [.int k]) (own := RC) ⟨hx, hb, hml, hown, fun _ h => nomatch h⟩ (ct_C_serverAt_no l hlt hk) (zt_cv hT tc_C_serverAt tv_C_serverAt tw_343 ⟨Nat.le_of_ble_eq_true rfl, Nat.le_of_ble_eq_true rfl⟩) (zx_preV (q0 := 0) hT (zq_Pl (zq_Pp (List.Perm.of_eq (List.append_nil _).symm) hP)) hK (zq_Dl (zq_Dp (List.Perm.of_eq (List.append_nil _).symm) hD)) hN hZ hS hA rfl rfl) rfl rfl hl.1 rfl (lv_room (Nat.le_of_ble_eq_true rfl)) dC_samples_2 ⟨Nat.le_of_ble_eq_true rfl, Nat.le_of_ble_eq_true rfl⟩) (fun _ _ _ h => h)
set_option maxHeartbeats 4000000 in
set_option maxRecDepth 100000 in
theorem ct_C_send_no (l : Launch) (hlt : l.stackTraces = false) {dC : Nat → ClassId} {dI : Nat → Nat → Nat} {cJ cI cB cZ cS : ClassId} {sz : Nat} {c0 q v sv : Nat} {loc slw : Int64} {wst : Int32} {k : Int32} (hk : k < 0 ∨ ¬ k < 5) : vx_Met l yC_send [Cond.code yC_send cC_send 3 (some .long)] { frames := 7, cells := 1, slots := 6, locals := 102 } (va_Pc [.ref c0, .int k] (zx_B (dC, dI) vcl (zz_T cJ cI cB cZ cS) (zc_C c0 q v sv loc slw wst) sz)) zx_Q (zx_X (dC, dI) vcl "java/lang/IndexOutOfBoundsException" (zc_C c0 q v sv loc slw wst) (zc_C c0 q v sv loc slw wst) sz) 1 6 (va_A (zc_C c0 q v sv loc slw wst) sz) := by
  refine vx_ofW (cc := cC_send) (maxL := 3) (ret := (some .long)) (by decide) rfl ?_
  intro p e s m args below meth c s₁ B hml htb hv
  obtain ⟨rfl, ⟨hsz, hT, hP, hK, hD0⟩, hN, hZ⟩ := hv
  subst hsz
  have hx := B.exec
  have hb := B.bytes
  have hr := B.returns
  have hlocks := B.notSynchronized
  have hown : s.vm.findClass RC = some m.cls := findClass_of_methodNamed B.named
  have hD := hD0.self (sz := s.heap.size)
  generalize hAe : va_A (zc_C c0 q v sv loc slw wst) s.heap.size = A at hD hZ ⊢
  have hA : ∀ q : Nat, s.heap.size ≤ q → A q := fun q h => by rw [← hAe]; exact Or.inr h
  have hS : va_S A s.heap s.heap [] := va_S.rf
  have hl := lv_entry ([.ref c0, .int k]) (n := 3) (Nat.le_of_ble_eq_true rfl)
  rw [lg_entry_eq]
  generalize (lg_sl ([.ref c0, .int k]) ++ List.replicate (3 - (lg_sl ([.ref c0, .int k])).length) Slot.unset).toArray = ls at hl ⊢
  have hl : lv_has ls 3 [(0, .ref c0), (1, .int k)] := hl
  refine lv_aload_n hx hb dC_send_0 rfl (lv_at hl 0 rfl) ?_
  refine lv_iload_n hx hb dC_send_1 rfl (lv_at hl 1 rfl) ?_
  exact zx_prop (List.Perm.of_eq (List.append_nil _).symm) (List.Perm.of_eq (List.append_nil _)) hlocks htb hA hAe hP hD hS (vx_runV (Ts := []) (As := [.int k]) (own := RC) ⟨hx, hb, hml, hown, fun _ h => nomatch h⟩ (ct_C_serverAt_no l hlt hk) (zt_cv hT tc_C_serverAt tv_C_serverAt tw_343 ⟨Nat.le_of_ble_eq_true rfl, Nat.le_of_ble_eq_true rfl⟩) (zx_preV (q0 := 0) hT (zq_Pl (zq_Pp (List.Perm.of_eq (List.append_nil _).symm) hP)) hK (zq_Dl (zq_Dp (List.Perm.of_eq (List.append_nil _).symm) hD)) hN hZ hS hA rfl rfl) rfl rfl hl.1 rfl (lv_room (Nat.le_of_ble_eq_true rfl)) dC_send_2 ⟨Nat.le_of_ble_eq_true rfl, Nat.le_of_ble_eq_true rfl⟩) (fun _ _ _ h => h)
set_option maxHeartbeats 4000000 in
set_option maxRecDepth 100000 in
theorem ct_C_receive_no (l : Launch) (hlt : l.stackTraces = false) {dC : Nat → ClassId} {dI : Nat → Nat → Nat} {cJ cI cB cZ cS : ClassId} {sz : Nat} {c0 q v sv : Nat} {loc slw : Int64} {wst : Int32} {k : Int32} (hk : k < 0 ∨ ¬ k < 5) : vx_Met l yC_receive [Cond.code yC_receive cC_receive 3 (some .int)] { frames := 7, cells := 1, slots := 6, locals := 102 } (va_Pc [.ref c0, .int k] (zx_B (dC, dI) vcl (zz_T cJ cI cB cZ cS) (zc_C c0 q v sv loc slw wst) sz)) zx_Q (zx_X (dC, dI) vcl "java/lang/IndexOutOfBoundsException" (zc_C c0 q v sv loc slw wst) (zc_C c0 q v sv loc slw wst) sz) 1 6 (va_A (zc_C c0 q v sv loc slw wst) sz) := by
  refine vx_ofW (cc := cC_receive) (maxL := 3) (ret := (some .int)) (by decide) rfl ?_
  intro p e s m args below meth c s₁ B hml htb hv
  obtain ⟨rfl, ⟨hsz, hT, hP, hK, hD0⟩, hN, hZ⟩ := hv
  subst hsz
  have hx := B.exec
  have hb := B.bytes
  have hr := B.returns
  have hlocks := B.notSynchronized
  have hown : s.vm.findClass RC = some m.cls := findClass_of_methodNamed B.named
  have hD := hD0.self (sz := s.heap.size)
  generalize hAe : va_A (zc_C c0 q v sv loc slw wst) s.heap.size = A at hD hZ ⊢
  have hA : ∀ q : Nat, s.heap.size ≤ q → A q := fun q h => by rw [← hAe]; exact Or.inr h
  have hS : va_S A s.heap s.heap [] := va_S.rf
  have hl := lv_entry ([.ref c0, .int k]) (n := 3) (Nat.le_of_ble_eq_true rfl)
  rw [lg_entry_eq]
  generalize (lg_sl ([.ref c0, .int k]) ++ List.replicate (3 - (lg_sl ([.ref c0, .int k])).length) Slot.unset).toArray = ls at hl ⊢
  have hl : lv_has ls 3 [(0, .ref c0), (1, .int k)] := hl
  refine lv_aload_n hx hb dC_receive_0 rfl (lv_at hl 0 rfl) ?_
  refine lv_iload_n hx hb dC_receive_1 rfl (lv_at hl 1 rfl) ?_
  exact zx_prop (List.Perm.of_eq (List.append_nil _).symm) (List.Perm.of_eq (List.append_nil _)) hlocks htb hA hAe hP hD hS (vx_runV (Ts := []) (As := [.int k]) (own := RC) ⟨hx, hb, hml, hown, fun _ h => nomatch h⟩ (ct_C_serverAt_no l hlt hk) (zt_cv hT tc_C_serverAt tv_C_serverAt tw_343 ⟨Nat.le_of_ble_eq_true rfl, Nat.le_of_ble_eq_true rfl⟩) (zx_preV (q0 := 0) hT (zq_Pl (zq_Pp (List.Perm.of_eq (List.append_nil _).symm) hP)) hK (zq_Dl (zq_Dp (List.Perm.of_eq (List.append_nil _).symm) hD)) hN hZ hS hA rfl rfl) rfl rfl hl.1 rfl (lv_room (Nat.le_of_ble_eq_true rfl)) dC_receive_2 ⟨Nat.le_of_ble_eq_true rfl, Nat.le_of_ble_eq_true rfl⟩) (fun _ _ _ h => h)
set_option maxHeartbeats 4000000 in
set_option maxRecDepth 100000 in
theorem ct_C_echo_no (l : Launch) (hlt : l.stackTraces = false) {dC : Nat → ClassId} {dI : Nat → Nat → Nat} {cJ cI cB cZ cS : ClassId} {sz : Nat} {c0 q v sv : Nat} {loc slw : Int64} {wst : Int32} {k : Int32} (hk : k < 0 ∨ ¬ k < 5) {y z : Int64} : vx_Met l yC_echo [Cond.code yC_echo cC_echo 7 none] { frames := 7, cells := 1, slots := 6, locals := 102 } (va_Pc [.ref c0, .int k, .long y, .long z] (zx_B (dC, dI) vcl (zz_T cJ cI cB cZ cS) (zc_C c0 q v sv loc slw wst) sz)) zx_Q (zx_X (dC, dI) vcl "java/lang/IndexOutOfBoundsException" (zc_C c0 q v sv loc slw wst) (zc_C c0 q v sv loc slw wst) sz) 1 6 (va_A (zc_C c0 q v sv loc slw wst) sz) := by
  refine vx_ofW (cc := cC_echo) (maxL := 7) (ret := none) (by decide) rfl ?_
  intro p e s m args below meth c s₁ B hml htb hv
  obtain ⟨rfl, ⟨hsz, hT, hP, hK, hD0⟩, hN, hZ⟩ := hv
  subst hsz
  have hx := B.exec
  have hb := B.bytes
  have hr := B.returns
  have hlocks := B.notSynchronized
  have hown : s.vm.findClass RC = some m.cls := findClass_of_methodNamed B.named
  have hD := hD0.self (sz := s.heap.size)
  generalize hAe : va_A (zc_C c0 q v sv loc slw wst) s.heap.size = A at hD hZ ⊢
  have hA : ∀ q : Nat, s.heap.size ≤ q → A q := fun q h => by rw [← hAe]; exact Or.inr h
  have hS : va_S A s.heap s.heap [] := va_S.rf
  have hl := lv_entry ([.ref c0, .int k, .long y, .long z]) (n := 7) (Nat.le_of_ble_eq_true rfl)
  rw [lg_entry_eq]
  generalize (lg_sl ([.ref c0, .int k, .long y, .long z]) ++ List.replicate (7 - (lg_sl ([.ref c0, .int k, .long y, .long z])).length) Slot.unset).toArray = ls at hl ⊢
  have hl : lv_has ls 7 [(0, .ref c0), (1, .int k), (2, .long y), (4, .long z)] := hl
  refine lv_aload_n hx hb dC_echo_0 rfl (lv_at hl 0 rfl) ?_
  refine lv_iload_n hx hb dC_echo_1 rfl (lv_at hl 1 rfl) ?_
  exact zx_prop (List.Perm.of_eq (List.append_nil _).symm) (List.Perm.of_eq (List.append_nil _)) hlocks htb hA hAe hP hD hS (vx_runV (Ts := []) (As := [.int k]) (own := RC) ⟨hx, hb, hml, hown, fun _ h => nomatch h⟩ (ct_C_serverAt_no l hlt hk) (zt_cv hT tc_C_serverAt tv_C_serverAt tw_343 ⟨Nat.le_of_ble_eq_true rfl, Nat.le_of_ble_eq_true rfl⟩) (zx_preV (q0 := 0) hT (zq_Pl (zq_Pp (List.Perm.of_eq (List.append_nil _).symm) hP)) hK (zq_Dl (zq_Dp (List.Perm.of_eq (List.append_nil _).symm) hD)) hN hZ hS hA rfl rfl) rfl rfl hl.1 rfl (lv_room (Nat.le_of_ble_eq_true rfl)) dC_echo_2 ⟨Nat.le_of_ble_eq_true rfl, Nat.le_of_ble_eq_true rfl⟩) (fun _ _ _ h => h)
set_option maxHeartbeats 4000000 in
set_option maxRecDepth 100000 in
theorem ct_C_offset_no (l : Launch) (hlt : l.stackTraces = false) {dC : Nat → ClassId} {dI : Nat → Nat → Nat} {cJ cI cB cZ cS : ClassId} {sz : Nat} {c0 q v sv : Nat} {loc slw : Int64} {wst : Int32} {k : Int32} (hk : k < 0 ∨ ¬ k < 5) : vx_Met l yC_offset [Cond.code yC_offset cC_offset 2 (some .long)] { frames := 8, cells := 1, slots := 6, locals := 124 } (va_Pc [.ref c0, .int k] (zx_B (dC, dI) vcl (zz_T cJ cI cB cZ cS) (zc_C c0 q v sv loc slw wst) sz)) zx_Q (zx_X (dC, dI) vcl "java/lang/IndexOutOfBoundsException" (zc_C c0 q v sv loc slw wst) (zc_C c0 q v sv loc slw wst) sz) 1 6 (va_A (zc_C c0 q v sv loc slw wst) sz) := by
  refine vx_ofW (cc := cC_offset) (maxL := 2) (ret := (some .long)) (by decide) rfl ?_
  intro p e s m args below meth c s₁ B hml htb hv
  obtain ⟨rfl, ⟨hsz, hT, hP, hK, hD0⟩, hN, hZ⟩ := hv
  subst hsz
  have hx := B.exec
  have hb := B.bytes
  have hr := B.returns
  have hlocks := B.notSynchronized
  have hown : s.vm.findClass RC = some m.cls := findClass_of_methodNamed B.named
  have hD := hD0.self (sz := s.heap.size)
  generalize hAe : va_A (zc_C c0 q v sv loc slw wst) s.heap.size = A at hD hZ ⊢
  have hA : ∀ q : Nat, s.heap.size ≤ q → A q := fun q h => by rw [← hAe]; exact Or.inr h
  have hS : va_S A s.heap s.heap [] := va_S.rf
  have hl := lv_entry ([.ref c0, .int k]) (n := 2) (Nat.le_of_ble_eq_true rfl)
  rw [lg_entry_eq]
  generalize (lg_sl ([.ref c0, .int k]) ++ List.replicate (2 - (lg_sl ([.ref c0, .int k])).length) Slot.unset).toArray = ls at hl ⊢
  have hl : lv_has ls 2 [(0, .ref c0), (1, .int k)] := hl
  refine lv_aload_n hx hb dC_offset_0 rfl (lv_at hl 0 rfl) ?_
  refine lv_iload_n hx hb dC_offset_1 rfl (lv_at hl 1 rfl) ?_
  exact zx_prop (List.Perm.of_eq (List.append_nil _).symm) (List.Perm.of_eq (List.append_nil _)) hlocks htb hA hAe hP hD hS (vx_runV (Ts := []) (As := [.int k]) (own := RC) ⟨hx, hb, hml, hown, fun _ h => nomatch h⟩ (ct_C_sampledAt_no l hlt hk) (zt_cv hT tc_C_sampledAt tv_C_sampledAt tw_469 ⟨Nat.le_of_ble_eq_true rfl, Nat.le_of_ble_eq_true rfl⟩) (zx_preV (q0 := 0) hT (zq_Pl (zq_Pp (List.Perm.of_eq (List.append_nil _).symm) hP)) hK (zq_Dl (zq_Dp (List.Perm.of_eq (List.append_nil _).symm) hD)) hN hZ hS hA rfl rfl) rfl rfl hl.1 rfl (lv_room (Nat.le_of_ble_eq_true rfl)) dC_offset_2 ⟨Nat.le_of_ble_eq_true rfl, Nat.le_of_ble_eq_true rfl⟩) (fun _ _ _ h => h)
set_option maxHeartbeats 4000000 in
set_option maxRecDepth 100000 in
theorem ct_C_delay_no (l : Launch) (hlt : l.stackTraces = false) {dC : Nat → ClassId} {dI : Nat → Nat → Nat} {cJ cI cB cZ cS : ClassId} {sz : Nat} {c0 q v sv : Nat} {loc slw : Int64} {wst : Int32} {k : Int32} (hk : k < 0 ∨ ¬ k < 5) : vx_Met l yC_delay [Cond.code yC_delay cC_delay 2 (some .long)] { frames := 8, cells := 1, slots := 6, locals := 124 } (va_Pc [.ref c0, .int k] (zx_B (dC, dI) vcl (zz_T cJ cI cB cZ cS) (zc_C c0 q v sv loc slw wst) sz)) zx_Q (zx_X (dC, dI) vcl "java/lang/IndexOutOfBoundsException" (zc_C c0 q v sv loc slw wst) (zc_C c0 q v sv loc slw wst) sz) 1 6 (va_A (zc_C c0 q v sv loc slw wst) sz) := by
  refine vx_ofW (cc := cC_delay) (maxL := 2) (ret := (some .long)) (by decide) rfl ?_
  intro p e s m args below meth c s₁ B hml htb hv
  obtain ⟨rfl, ⟨hsz, hT, hP, hK, hD0⟩, hN, hZ⟩ := hv
  subst hsz
  have hx := B.exec
  have hb := B.bytes
  have hr := B.returns
  have hlocks := B.notSynchronized
  have hown : s.vm.findClass RC = some m.cls := findClass_of_methodNamed B.named
  have hD := hD0.self (sz := s.heap.size)
  generalize hAe : va_A (zc_C c0 q v sv loc slw wst) s.heap.size = A at hD hZ ⊢
  have hA : ∀ q : Nat, s.heap.size ≤ q → A q := fun q h => by rw [← hAe]; exact Or.inr h
  have hS : va_S A s.heap s.heap [] := va_S.rf
  have hl := lv_entry ([.ref c0, .int k]) (n := 2) (Nat.le_of_ble_eq_true rfl)
  rw [lg_entry_eq]
  generalize (lg_sl ([.ref c0, .int k]) ++ List.replicate (2 - (lg_sl ([.ref c0, .int k])).length) Slot.unset).toArray = ls at hl ⊢
  have hl : lv_has ls 2 [(0, .ref c0), (1, .int k)] := hl
  refine lv_aload_n hx hb dC_delay_0 rfl (lv_at hl 0 rfl) ?_
  refine lv_iload_n hx hb dC_delay_1 rfl (lv_at hl 1 rfl) ?_
  exact zx_prop (List.Perm.of_eq (List.append_nil _).symm) (List.Perm.of_eq (List.append_nil _)) hlocks htb hA hAe hP hD hS (vx_runV (Ts := []) (As := [.int k]) (own := RC) ⟨hx, hb, hml, hown, fun _ h => nomatch h⟩ (ct_C_sampledAt_no l hlt hk) (zt_cv hT tc_C_sampledAt tv_C_sampledAt tw_469 ⟨Nat.le_of_ble_eq_true rfl, Nat.le_of_ble_eq_true rfl⟩) (zx_preV (q0 := 0) hT (zq_Pl (zq_Pp (List.Perm.of_eq (List.append_nil _).symm) hP)) hK (zq_Dl (zq_Dp (List.Perm.of_eq (List.append_nil _).symm) hD)) hN hZ hS hA rfl rfl) rfl rfl hl.1 rfl (lv_room (Nat.le_of_ble_eq_true rfl)) dC_delay_2 ⟨Nat.le_of_ble_eq_true rfl, Nat.le_of_ble_eq_true rfl⟩) (fun _ _ _ h => h)
set_option maxHeartbeats 4000000 in
set_option maxRecDepth 100000 in
theorem ct_C_jitter_no (l : Launch) (hlt : l.stackTraces = false) {dC : Nat → ClassId} {dI : Nat → Nat → Nat} {cJ cI cB cZ cS : ClassId} {sz : Nat} {c0 q v sv : Nat} {loc slw : Int64} {wst : Int32} {k : Int32} (hk : k < 0 ∨ ¬ k < 5) : vx_Met l yC_jitter [Cond.code yC_jitter cC_jitter 2 (some .long)] { frames := 8, cells := 1, slots := 6, locals := 124 } (va_Pc [.ref c0, .int k] (zx_B (dC, dI) vcl (zz_T cJ cI cB cZ cS) (zc_C c0 q v sv loc slw wst) sz)) zx_Q (zx_X (dC, dI) vcl "java/lang/IndexOutOfBoundsException" (zc_C c0 q v sv loc slw wst) (zc_C c0 q v sv loc slw wst) sz) 1 6 (va_A (zc_C c0 q v sv loc slw wst) sz) := by
  refine vx_ofW (cc := cC_jitter) (maxL := 2) (ret := (some .long)) (by decide) rfl ?_
  intro p e s m args below meth c s₁ B hml htb hv
  obtain ⟨rfl, ⟨hsz, hT, hP, hK, hD0⟩, hN, hZ⟩ := hv
  subst hsz
  have hx := B.exec
  have hb := B.bytes
  have hr := B.returns
  have hlocks := B.notSynchronized
  have hown : s.vm.findClass RC = some m.cls := findClass_of_methodNamed B.named
  have hD := hD0.self (sz := s.heap.size)
  generalize hAe : va_A (zc_C c0 q v sv loc slw wst) s.heap.size = A at hD hZ ⊢
  have hA : ∀ q : Nat, s.heap.size ≤ q → A q := fun q h => by rw [← hAe]; exact Or.inr h
  have hS : va_S A s.heap s.heap [] := va_S.rf
  have hl := lv_entry ([.ref c0, .int k]) (n := 2) (Nat.le_of_ble_eq_true rfl)
  rw [lg_entry_eq]
  generalize (lg_sl ([.ref c0, .int k]) ++ List.replicate (2 - (lg_sl ([.ref c0, .int k])).length) Slot.unset).toArray = ls at hl ⊢
  have hl : lv_has ls 2 [(0, .ref c0), (1, .int k)] := hl
  refine lv_aload_n hx hb dC_jitter_0 rfl (lv_at hl 0 rfl) ?_
  refine lv_iload_n hx hb dC_jitter_1 rfl (lv_at hl 1 rfl) ?_
  exact zx_prop (List.Perm.of_eq (List.append_nil _).symm) (List.Perm.of_eq (List.append_nil _)) hlocks htb hA hAe hP hD hS (vx_runV (Ts := []) (As := [.int k]) (own := RC) ⟨hx, hb, hml, hown, fun _ h => nomatch h⟩ (ct_C_sampledAt_no l hlt hk) (zt_cv hT tc_C_sampledAt tv_C_sampledAt tw_469 ⟨Nat.le_of_ble_eq_true rfl, Nat.le_of_ble_eq_true rfl⟩) (zx_preV (q0 := 0) hT (zq_Pl (zq_Pp (List.Perm.of_eq (List.append_nil _).symm) hP)) hK (zq_Dl (zq_Dp (List.Perm.of_eq (List.append_nil _).symm) hD)) hN hZ hS hA rfl rfl) rfl rfl hl.1 rfl (lv_room (Nat.le_of_ble_eq_true rfl)) dC_jitter_2 ⟨Nat.le_of_ble_eq_true rfl, Nat.le_of_ble_eq_true rfl⟩) (fun _ _ _ h => h)
set_option maxHeartbeats 4000000 in
set_option maxRecDepth 100000 in
theorem ct_C_distance_no (l : Launch) (hlt : l.stackTraces = false) {dC : Nat → ClassId} {dI : Nat → Nat → Nat} {cJ cI cB cZ cS : ClassId} {sz : Nat} {c0 q v sv : Nat} {loc slw : Int64} {wst : Int32} {k : Int32} (hk : k < 0 ∨ ¬ k < 5) : vx_Met l yC_distance [Cond.code yC_distance cC_distance 2 (some .long)] { frames := 8, cells := 1, slots := 6, locals := 124 } (va_Pc [.ref c0, .int k] (zx_B (dC, dI) vcl (zz_T cJ cI cB cZ cS) (zc_C c0 q v sv loc slw wst) sz)) zx_Q (zx_X (dC, dI) vcl "java/lang/IndexOutOfBoundsException" (zc_C c0 q v sv loc slw wst) (zc_C c0 q v sv loc slw wst) sz) 1 6 (va_A (zc_C c0 q v sv loc slw wst) sz) := by
  refine vx_ofW (cc := cC_distance) (maxL := 2) (ret := (some .long)) (by decide) rfl ?_
  intro p e s m args below meth c s₁ B hml htb hv
  obtain ⟨rfl, ⟨hsz, hT, hP, hK, hD0⟩, hN, hZ⟩ := hv
  subst hsz
  have hx := B.exec
  have hb := B.bytes
  have hr := B.returns
  have hlocks := B.notSynchronized
  have hown : s.vm.findClass RC = some m.cls := findClass_of_methodNamed B.named
  have hD := hD0.self (sz := s.heap.size)
  generalize hAe : va_A (zc_C c0 q v sv loc slw wst) s.heap.size = A at hD hZ ⊢
  have hA : ∀ q : Nat, s.heap.size ≤ q → A q := fun q h => by rw [← hAe]; exact Or.inr h
  have hS : va_S A s.heap s.heap [] := va_S.rf
  have hl := lv_entry ([.ref c0, .int k]) (n := 2) (Nat.le_of_ble_eq_true rfl)
  rw [lg_entry_eq]
  generalize (lg_sl ([.ref c0, .int k]) ++ List.replicate (2 - (lg_sl ([.ref c0, .int k])).length) Slot.unset).toArray = ls at hl ⊢
  have hl : lv_has ls 2 [(0, .ref c0), (1, .int k)] := hl
  refine lv_aload_n hx hb dC_distance_0 rfl (lv_at hl 0 rfl) ?_
  refine lv_iload_n hx hb dC_distance_1 rfl (lv_at hl 1 rfl) ?_
  exact zx_prop (List.Perm.of_eq (List.append_nil _).symm) (List.Perm.of_eq (List.append_nil _)) hlocks htb hA hAe hP hD hS (vx_runV (Ts := []) (As := [.int k]) (own := RC) ⟨hx, hb, hml, hown, fun _ h => nomatch h⟩ (ct_C_sampledAt_no l hlt hk) (zt_cv hT tc_C_sampledAt tv_C_sampledAt tw_469 ⟨Nat.le_of_ble_eq_true rfl, Nat.le_of_ble_eq_true rfl⟩) (zx_preV (q0 := 0) hT (zq_Pl (zq_Pp (List.Perm.of_eq (List.append_nil _).symm) hP)) hK (zq_Dl (zq_Dp (List.Perm.of_eq (List.append_nil _).symm) hD)) hN hZ hS hA rfl rfl) rfl rfl hl.1 rfl (lv_room (Nat.le_of_ble_eq_true rfl)) dC_distance_2 ⟨Nat.le_of_ble_eq_true rfl, Nat.le_of_ble_eq_true rfl⟩) (fun _ _ _ h => h)
