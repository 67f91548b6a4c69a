/-! The law's start -/
theorem zl_p6 {cS cJ : ClassId} {sv : Nat} {so sa sb sd : Nat → Nat} {den rch exg str : Nat → Int32} {xp rdl rds : Nat → Int64} {nn : Nat → Nat} {off del arr : Nat → Nat → Int64} : zw_A sv cS cJ so sa sb sd den rch (fun _ => 6) exg xp nn str rdl rds off del arr = zw_A sv cS cJ so sa sb sd den rch (zn_p6 5) exg xp nn str rdl rds off del arr := rfl
theorem zl_pb0 : ze_pb (zn_p6 5) := by
  intro i hi
  refine ⟨6, by decide, by decide, ?_⟩
  rcases (show i = 0 ∨ i = 1 ∨ i = 2 ∨ i = 3 ∨ i = 4 by omega) with e | e | e | e | e <;> subst e <;> rfl
theorem zl_I0 : zl_I 0 (fun _ => 0) (zn_p6 5) (fun _ => 0) (fun _ => 0) (fun _ => 0) (fun _ _ => 0) (fun _ _ => 0) (fun _ _ => 0) (fun _ => 0) (fun _ => 0) (fun _ => 0) (fun _ => 0) (fun _ => 0) 0 0 := by
  refine ⟨fun _ => Nat.zero_le 8, fun _ _ => (show (0 : Int32) &&& 255 = 0 by decide), zl_pb0, fun _ _ => ⟨0, by decide, rfl⟩, zj_none (fun _ _ => rfl), fun _ _ => (show (0 ≤ (0 : Int64).toInt ∧ (0 : Int64).toInt ≤ 281474976710656) ∧ 0 ≤ (0 : Int64).toInt ∧ (0 : Int64).toInt ≤ 281474976710656 by decide), fun _ => by decide, by decide, by decide⟩
theorem zl_cp {C P A V : va_W} : (((C ++ P) ++ A) ++ V).Perm (((V ++ A) ++ C) ++ P) := zl_ac (fun _ a => by simp only [List.count_append]; omega)
theorem zl_pre {s : State} {H : Heap} {A : Nat → Prop} {D : va_G} {cl : List vw_C} {tys : List (ClassId × FieldType)} {wc : va_W} {As : List Value} {C : String} (hT : zt_TB s) (hP : va_P D cl wc H) (hK : va_K D cl tys s) (hD : va_D A wc) (hO : va_AO C s) : PreS s H (va_Pc As (fun U => zq_B D cl tys wc H.size U ∧ va_AO C U)) As := by
  have h := zq_preS (As := As) hT hP hK hD
  refine ⟨fun a U g mk q => ?_, fun U hU hW => ?_⟩
  · have h1 := zq_blind (D := D) (cl := cl) (tys := tys) (ws := wc) (sz := H.size) (av := As) a U g mk ⟨q.1, q.2.1⟩
    exact ⟨h1.1, h1.2, va_AO.moved (u := U) (U := U.calling g mk a) (Vm.Alike.refl U.vm) q.2.2⟩
  · have h2 := h.2 U hU hW
    exact ⟨h2.1, h2.2, va_AO.moved hW.alike hO⟩
set_option maxHeartbeats 4000000 in
set_option maxRecDepth 100000 in
theorem whole_start {p : Program} {e : Env} {s : State} {m : MethodId} {below : List Frame} {meth : Method} {c : Code} (l : Launch) (hlt : l.stackTraces = false) {b L : Nat} {xs : Nat → Int32} (hL : L ≤ 3072) (C0 : lw_At p s m meth c b L xs) : W p l e room_1 s m #[Value.ref b] below meth c s.heap [] 0 0 (lw_Z below #[Value.ref b] s) (entryFrame m ([Value.ref b] : List Value).toArray 8) := by
  obtain ⟨hx, hb, hr, hml, hown, hts, hX, hbl, hlocks, hgv⟩ := C0
  have hown : s.vm.findClass RL = some m.cls := hown
  have hT : zt_TB s := zt_TB.of hts
  have hN : zx_N s := zx_N.of hts
  obtain ⟨dC, dI, cJ, cI, cB, cZ, cS, hK⟩ := zl_K0 hts
  have hC := zl_C0 hgv
  have hZ := zl_Z0 hts hgv
  have hO : va_AO "StrataClient$Server" s := va_AO.of (hts _ tw_36)
  generalize hAe : (fun q : Nat => s.heap.size ≤ q) = A at hZ
  have hA : ∀ q : Nat, s.heap.size ≤ q → A q := fun q h => by rw [← hAe]; exact h
  have hAs : ∀ q : Nat, A q → s.heap.size ≤ q := fun q h => by rw [← hAe] at h; exact h
  have hbA : ¬ A b := fun h => by
    have := hAs b h
    omega
  have hS : va_S A s.heap s.heap [] := va_S.rf
  have hP : va_P (dC, dI) vcl [] s.heap := fun k q h => by cases h
  have hD : va_D A ([] : va_W) := ⟨fun i j x y h => (by cases h), fun k q h => (by cases h)⟩
  have hl := lv_entry ([.ref b]) (n := 8) (Nat.le_of_ble_eq_true rfl)
  rw [lg_entry_eq]
  generalize (lg_sl ([.ref b]) ++ List.replicate (8 - (lg_sl ([.ref b])).length) Slot.unset).toArray = ls at hl ⊢
  have hl : lv_has ls 8 [(0, .ref b)] := hl
  refine zn_newC_ hx hb hT hown tw_16 hK hP hD hS hA (Nat.le_of_ble_eq_true rfl) (Nat.le_of_ble_eq_true rfl) dW_0 (fun q1 H hP hD hS => ?_)
  have hP : va_P (dC, dI) vcl [(q1, .inr (3, [.null, .null, .null, .long 0, .long 0, .int 0]))] H := hP
  have hD : va_D A [(q1, .inr (3, [.null, .null, .null, .long 0, .long 0, .int 0]))] := hD
  refine lv_dup hx hb dW_3 rfl ?_
  refine zn_call (W2 := fun u : zn_U => (zl_CW cJ cB cS q1 (u.1 0) (u.1 1) (u.1 3) (u.1 4) (u.1 5) (u.1 2) u.2.1 u.2.2.1 u.2.2.2.1 u.2.2.2.2 0 (4611686018427387904) (-4611686018427387904) 0 (fun _ => 0) (fun _ => 0) (fun _ => 0) (fun _ => 0) (fun _ => 6) (fun _ => 0) (fun _ => 0) (fun _ => 0) (fun _ => 0) (fun _ => 0) (fun _ => 0) (fun _ _ => 0) (fun _ _ => 0) (fun _ _ => 0) 0 0 0 (fun _ => 0))) (List.Perm.of_eq (List.append_nil _).symm) (fun u => (List.Perm.of_eq (List.append_nil _)).trans zl_cp) (va_runI (Ts := []) (As := []) (own := RL) ⟨hx, hb, hml, hown, fun _ h => nomatch h⟩ (ct_C_init l) (zn_cw hT tc_C_init tw_18 tw_19 rfl ⟨Nat.le_of_ble_eq_true rfl, Nat.le_of_ble_eq_true rfl⟩) (zl_pre hT hP hK hD hO) rfl rfl hl.1 rfl (lv_room (Nat.le_of_ble_eq_true rfl)) dW_4 ⟨Nat.le_of_ble_eq_true rfl, Nat.le_of_ble_eq_true rfl⟩) hP hD hS hA (fun u H locs hP hD hS => ?_)
  have hP : va_P (dC, dI) vcl (zl_CW cJ cB cS q1 (u.1 0) (u.1 1) (u.1 3) (u.1 4) (u.1 5) (u.1 2) u.2.1 u.2.2.1 u.2.2.2.1 u.2.2.2.2 0 (4611686018427387904) (-4611686018427387904) 0 (fun _ => 0) (fun _ => 0) (fun _ => 0) (fun _ => 0) (zn_p6 5) (fun _ => 0) (fun _ => 0) (fun _ => 0) (fun _ => 0) (fun _ => 0) (fun _ => 0) (fun _ _ => 0) (fun _ _ => 0) (fun _ _ => 0) 0 0 0 (fun _ => 0)) H := hP
  have hD : va_D A (zl_CW cJ cB cS q1 (u.1 0) (u.1 1) (u.1 3) (u.1 4) (u.1 5) (u.1 2) u.2.1 u.2.2.1 u.2.2.2.1 u.2.2.2.2 0 (4611686018427387904) (-4611686018427387904) 0 (fun _ => 0) (fun _ => 0) (fun _ => 0) (fun _ => 0) (zn_p6 5) (fun _ => 0) (fun _ => 0) (fun _ => 0) (fun _ => 0) (fun _ => 0) (fun _ => 0) (fun _ _ => 0) (fun _ _ => 0) (fun _ _ => 0) 0 0 0 (fun _ => 0)) := hD
  refine lv_astore_n (lv' := [(1, .ref q1), (0, .ref b)]) hx hb dW_7 rfl hl (by decide) rfl (fun ls hl => ?_)
  refine zn_newM_ hx hb hT hown tw_611 hK hP hD hS hA (Nat.le_of_ble_eq_true rfl) (Nat.le_of_ble_eq_true rfl) dW_8 (fun q2 H hP hD hS => ?_)
  refine lv_dup hx hb dW_11 rfl ?_
  refine zn_call (W2 := fun ad : Nat → Nat => (zl_CW cJ cB cS q1 (u.1 0) (u.1 1) (u.1 3) (u.1 4) (u.1 5) (u.1 2) u.2.1 u.2.2.1 u.2.2.2.1 u.2.2.2.2 0 (4611686018427387904) (-4611686018427387904) 0 (fun _ => 0) (fun _ => 0) (fun _ => 0) (fun _ => 0) (zn_p6 5) (fun _ => 0) (fun _ => 0) (fun _ => 0) (fun _ => 0) (fun _ => 0) (fun _ => 0) (fun _ _ => 0) (fun _ _ => 0) (fun _ _ => 0) 0 0 0 (fun _ => 0)) ++ (zm_W q2 ad cI cJ cZ 0 0 0 0 (fun _ => 0) (fun _ => 0) (fun _ => 0) (zn_p6 5) (fun _ => 0) (fun _ => 0) (fun _ => 0) (fun _ => 0) (fun _ => 0) (fun _ => 0) (fun _ => 0) (fun _ => 0) (fun _ => 0) (fun _ => 0) 0 0)) List.perm_append_comm (fun _ => List.perm_append_comm) (va_runI (Ts := []) (As := []) (own := RL) ⟨hx, hb, hml, hown, fun _ h => nomatch h⟩ (ct_M_init l) (zn_cw hT tc_M_init tw_613 tw_614 rfl ⟨Nat.le_of_ble_eq_true rfl, Nat.le_of_ble_eq_true rfl⟩) (zq_preS hT (zq_Pr hP) hK (zq_Dl (zq_Dp List.perm_append_comm hD))) rfl rfl hl.1 rfl (lv_room (Nat.le_of_ble_eq_true rfl)) dW_12 ⟨Nat.le_of_ble_eq_true rfl, Nat.le_of_ble_eq_true rfl⟩) hP hD hS hA (fun ad H locs hP hD hS => ?_)
  refine lv_astore_n (lv' := [(2, .ref q2), (1, .ref q1), (0, .ref b)]) hx hb dW_15 rfl hl (by decide) rfl (fun ls hl => ?_)
  refine lv_iconst (v := 1) hx hb dW_16 (by decide) ?_
  refine zn_newJ (N' := 1) hx hb hT hK hP hD hS hA (by decide) (by decide) (by decide) (Nat.le_of_ble_eq_true rfl) (Nat.le_of_ble_eq_true rfl) dW_17 (fun q3 H hP hD hS => ?_)
  have hP : va_P (dC, dI) vcl ((zl_CW cJ cB cS q1 (u.1 0) (u.1 1) (u.1 3) (u.1 4) (u.1 5) (u.1 2) u.2.1 u.2.2.1 u.2.2.2.1 u.2.2.2.2 0 (4611686018427387904) (-4611686018427387904) 0 (fun _ => 0) (fun _ => 0) (fun _ => 0) (fun _ => 0) (zn_p6 5) (fun _ => 0) (fun _ => 0) (fun _ => 0) (fun _ => 0) (fun _ => 0) (fun _ => 0) (fun _ _ => 0) (fun _ _ => 0) (fun _ _ => 0) 0 0 0 (fun _ => 0)) ++ ((zm_W q2 ad cI cJ cZ 0 0 0 0 (fun _ => 0) (fun _ => 0) (fun _ => 0) (zn_p6 5) (fun _ => 0) (fun _ => 0) (fun _ => 0) (fun _ => 0) (fun _ => 0) (fun _ => 0) (fun _ => 0) (fun _ => 0) (fun _ => 0) (fun _ => 0) 0 0) ++ zy_O q3 cJ (fun _ => 0))) H := by rw [← List.append_assoc]; exact hP
  have hD : va_D A ((zl_CW cJ cB cS q1 (u.1 0) (u.1 1) (u.1 3) (u.1 4) (u.1 5) (u.1 2) u.2.1 u.2.2.1 u.2.2.2.1 u.2.2.2.2 0 (4611686018427387904) (-4611686018427387904) 0 (fun _ => 0) (fun _ => 0) (fun _ => 0) (fun _ => 0) (zn_p6 5) (fun _ => 0) (fun _ => 0) (fun _ => 0) (fun _ => 0) (fun _ => 0) (fun _ => 0) (fun _ _ => 0) (fun _ _ => 0) (fun _ _ => 0) 0 0 0 (fun _ => 0)) ++ ((zm_W q2 ad cI cJ cZ 0 0 0 0 (fun _ => 0) (fun _ => 0) (fun _ => 0) (zn_p6 5) (fun _ => 0) (fun _ => 0) (fun _ => 0) (fun _ => 0) (fun _ => 0) (fun _ => 0) (fun _ => 0) (fun _ => 0) (fun _ => 0) (fun _ => 0) 0 0) ++ zy_O q3 cJ (fun _ => 0))) := by rw [← List.append_assoc]; exact hD
  refine lv_astore_n (lv' := [(3, .ref q3), (2, .ref q2), (1, .ref q1), (0, .ref b)]) hx hb dW_19 rfl hl (by decide) rfl (fun ls hl => ?_)
  refine lv_iconst (v := 0) hx hb dW_20 (by decide) ?_
  refine lv_istore (lv' := [(4, .int 0), (3, .ref q3), (2, .ref q2), (1, .ref q1), (0, .ref b)]) hx hb dW_21 hl (by decide) rfl (fun ls hl => ?_)
  exact lo_loop (b := b) (L := L) (xs := xs) (A := A) (dC := dC) (dI := dI) (cJ := cJ) (cI := cI) (cB := cB) (cZ := cZ) (cS := cS) ⟨hx, hb, hml, hown, hT, hN, hC, hZ, hK, hA, hX, hbl, hbA, hL⟩ hlt hr hlocks hAs (L / 6) 0 (by omega) _ _ _ _ _ _ _ _ _ _ _ _ _ _ _ _ _ _ _ _ _ _ _ _ _ _ _ _ _ _ _ _ _ _ _ _ (by omega) (by omega) zl_I0 hP hD hS (lv_sub hl [4, 3, 2, 1, 0] rfl)
