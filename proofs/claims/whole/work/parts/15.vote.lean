/-! Readings of the vote -/
set_option maxHeartbeats 4000000 in
set_option maxRecDepth 100000 in
theorem ct_V_has (l : Launch) {x y : Int32} : Met l yV_has [Cond.code yV_has cV_has 2 (some .boolean)] { frames := 0, cells := 0, slots := 0, locals := 0 } (va_Pc [.int x, .int y] zt_TB) (zz_Q (.int (zv_has x y))) 0 0 (fun _ => False) := by
  refine Met.ofW (cc := cV_has) (maxL := 2) (ret := (some .boolean)) (by decide) rfl ?_
  intro p e s m args below meth c s₁ B hml hv
  obtain ⟨rfl, hT⟩ := hv
  have hx := B.exec
  have hb := B.bytes
  have hr := B.returns
  have hlocks := B.notSynchronized
  have hown : s.vm.findClass RV = some m.cls := findClass_of_methodNamed B.named
  have hl := lv_entry ([.int x, .int y]) (n := 2) (Nat.le_of_ble_eq_true rfl)
  rw [lg_entry_eq]
  generalize (lg_sl ([.int x, .int y]) ++ List.replicate (2 - (lg_sl ([.int x, .int y])).length) Slot.unset).toArray = ls at hl ⊢
  have hl : lv_has ls 2 [(0, .int x), (1, .int y)] := hl
  refine lv_iload_n hx hb dV_has_0 rfl (lv_at hl 0 rfl) ?_
  refine lv_iload_n hx hb dV_has_1 rfl (lv_at hl 1 rfl) ?_
  refine lv_ishr hx hb dV_has_2 ?_
  refine lv_iconst (v := 1) hx hb dV_has_3 (by decide) ?_
  refine lv_iand hx hb dV_has_4 ?_
  refine zz_zeq (tgt := 12) hx hb dV_has_5 (by decide) (fun h1 => ?_) (fun h1 => ?_)
  · refine lv_iconst (v := 0) hx hb dV_has_12 (by decide) ?_
    exact zz_bret hx hb hr hlocks dV_has_13 (by decide) (by first | exact (if_pos h1).symm | exact (if_neg h1).symm)
  · refine lv_iconst (v := 1) hx hb dV_has_8 (by decide) ?_
    refine lv_goto (tgt := 13) hx hb dV_has_9 (by decide) ?_
    exact zz_bret hx hb hr hlocks dV_has_13 (by decide) (by first | exact (if_pos h1).symm | exact (if_neg h1).symm)
set_option maxHeartbeats 4000000 in
set_option maxRecDepth 100000 in
theorem ct_V_hasMajority (l : Launch) {dC : Nat → ClassId} {dI : Nat → Nat → Nat} {cJ cI cB cZ cS : ClassId} {v a b : Nat} {cand surv : Int32} {low high : Int64} {vo vd : Nat → Int64} : Met l yV_hasMajority [Cond.code yV_hasMajority cV_hasMajority 1 (some .boolean)] { frames := 0, cells := 0, slots := 0, locals := 0 } (va_Pc [.ref v] (zz_B (dC, dI) vcl (zz_T cJ cI cB cZ cS) (zv_W v a b cJ cand low high surv vo vd))) (zz_Q (.int (zv_maj low high))) 0 0 (fun _ => False) := by
  refine Met.ofW (cc := cV_hasMajority) (maxL := 1) (ret := (some .boolean)) (by decide) rfl ?_
  intro p e s m args below meth c s₁ B hml hv
  obtain ⟨rfl, hT, hP, hK⟩ := hv
  have hx := B.exec
  have hb := B.bytes
  have hr := B.returns
  have hlocks := B.notSynchronized
  have hown : s.vm.findClass RV = some m.cls := findClass_of_methodNamed B.named
  have hl := lv_entry ([.ref v]) (n := 1) (Nat.le_of_ble_eq_true rfl)
  rw [lg_entry_eq]
  generalize (lg_sl ([.ref v]) ++ List.replicate (1 - (lg_sl ([.ref v])).length) Slot.unset).toArray = ls at hl ⊢
  have hl : lv_has ls 1 [(0, .ref v)] := hl
  refine lv_aload_n hx hb dV_hasMajority_0 rfl (lv_at hl 0 rfl) ?_
  refine zz_getV hx hb hT hown hK hP 0 rfl 1 (by decide) tw_100 rfl dV_hasMajority_1 ?_
  refine lv_aload_n hx hb dV_hasMajority_4 rfl (lv_at hl 0 rfl) ?_
  refine zz_getV hx hb hT hown hK hP 0 rfl 2 (by decide) tw_102 rfl dV_hasMajority_5 ?_
  refine zz_lgt (tgt := 16) hx hb dV_hasMajority_8 dV_hasMajority_9 (by decide) (fun h1 => ?_) (fun h1 => ?_)
  · refine lv_iconst (v := 0) hx hb dV_hasMajority_16 (by decide) ?_
    exact zz_bret hx hb hr hlocks dV_hasMajority_17 (by decide) (by first | exact (if_pos h1).symm | exact (if_neg h1).symm)
  · refine lv_iconst (v := 1) hx hb dV_hasMajority_12 (by decide) ?_
    refine lv_goto (tgt := 17) hx hb dV_hasMajority_13 (by decide) ?_
    exact zz_bret hx hb hr hlocks dV_hasMajority_17 (by decide) (by first | exact (if_pos h1).symm | exact (if_neg h1).symm)
set_option maxHeartbeats 4000000 in
set_option maxRecDepth 100000 in
theorem ct_V_agrees (l : Launch) {dC : Nat → ClassId} {dI : Nat → Nat → Nat} {cJ cI cB cZ cS : ClassId} {v a b : Nat} {cand surv : Int32} {low high : Int64} {vo vd : Nat → Int64} : Met l yV_agrees [Cond.code yV_agrees cV_agrees 1 (some .boolean)] { frames := 1, cells := 0, slots := 0, locals := 20 } (va_Pc [.ref v] (zz_B (dC, dI) vcl (zz_T cJ cI cB cZ cS) (zv_W v a b cJ cand low high surv vo vd))) (zz_Q (.int (zv_agr low high surv))) 0 0 (fun _ => False) := by
  refine Met.ofW (cc := cV_agrees) (maxL := 1) (ret := (some .boolean)) (by decide) rfl ?_
  intro p e s m args below meth c s₁ B hml hv
  obtain ⟨rfl, hT, hP, hK⟩ := hv
  have hx := B.exec
  have hb := B.bytes
  have hr := B.returns
  have hlocks := B.notSynchronized
  have hown : s.vm.findClass RV = some m.cls := findClass_of_methodNamed B.named
  have hl := lv_entry ([.ref v]) (n := 1) (Nat.le_of_ble_eq_true rfl)
  rw [lg_entry_eq]
  generalize (lg_sl ([.ref v]) ++ List.replicate (1 - (lg_sl ([.ref v])).length) Slot.unset).toArray = ls at hl ⊢
  have hl : lv_has ls 1 [(0, .ref v)] := hl
  refine lv_aload_n hx hb dV_agrees_0 rfl (lv_at hl 0 rfl) ?_
  refine zz_call (va_runV (Ts := []) (As := []) (own := RV) ⟨hx, hb, hml, hown, fun _ h => nomatch h⟩ (ct_V_hasMajority l) (zt_cv hT tc_V_hasMajority tv_V_hasMajority tw_548 ⟨Nat.le_of_ble_eq_true rfl, Nat.le_of_ble_eq_true rfl⟩) (zz_preV (q0 := 0) hT hP hK rfl rfl) rfl rfl hl.1 rfl (lv_room (Nat.le_of_ble_eq_true rfl)) dV_agrees_1 ⟨Nat.zero_le _, Nat.zero_le _⟩) ?_
  refine zz_zeq (tgt := 18) hx hb dV_agrees_4 (by decide) (fun h1 => ?_) (fun h1 => ?_)
  · refine lv_iconst (v := 0) hx hb dV_agrees_18 (by decide) ?_
    exact zz_bret hx hb hr hlocks dV_agrees_19 (by decide) (by unfold zv_agr; first | (rw [if_pos (by grind)]; done) | (rw [if_neg (by grind)]; done))
  · refine lv_aload_n hx hb dV_agrees_7 rfl (lv_at hl 0 rfl) ?_
    refine zz_getV hx hb hT hown hK hP 0 rfl 3 (by decide) tw_104 rfl dV_agrees_8 ?_
    refine zz_zeq (tgt := 18) hx hb dV_agrees_11 (by decide) (fun h2 => ?_) (fun h2 => ?_)
    · refine lv_iconst (v := 0) hx hb dV_agrees_18 (by decide) ?_
      exact zz_bret hx hb hr hlocks dV_agrees_19 (by decide) (by unfold zv_agr; first | (rw [if_pos (by grind)]; done) | (rw [if_neg (by grind)]; done))
    · refine lv_iconst (v := 1) hx hb dV_agrees_14 (by decide) ?_
      refine lv_goto (tgt := 19) hx hb dV_agrees_15 (by decide) ?_
      exact zz_bret hx hb hr hlocks dV_agrees_19 (by decide) (by unfold zv_agr; first | (rw [if_pos (by grind)]; done) | (rw [if_neg (by grind)]; done))
set_option maxHeartbeats 4000000 in
set_option maxRecDepth 100000 in
theorem ct_V_spreadOf (l : Launch) {dC : Nat → ClassId} {dI : Nat → Nat → Nat} {cJ cI cB cZ cS : ClassId} {v a b : Nat} {cand surv : Int32} {low high : Int64} {vo vd : Nat → Int64} {k : Nat} (hk : k < 5) : Met l yV_spreadOf [Cond.code yV_spreadOf cV_spreadOf 5 (some .long)] { frames := 1, cells := 0, slots := 0, locals := 21 } (va_Pc [.ref v, .int (nI k)] (zz_B (dC, dI) vcl (zz_T cJ cI cB cZ cS) (zv_W v a b cJ cand low high surv vo vd))) (zz_Q (.long (zv_spr surv vo k 5))) 0 0 (fun _ => False) := by
  refine Met.ofW (cc := cV_spreadOf) (maxL := 5) (ret := (some .long)) (by decide) rfl ?_
  intro p e s m args below meth c s₁ B hml hv
  obtain ⟨rfl, hT, hP, hK⟩ := hv
  have hx := B.exec
  have hb := B.bytes
  have hr := B.returns
  have hlocks := B.notSynchronized
  have hown : s.vm.findClass RV = some m.cls := findClass_of_methodNamed B.named
  have hl := lv_entry ([.ref v, .int (nI k)]) (n := 5) (Nat.le_of_ble_eq_true rfl)
  rw [lg_entry_eq]
  generalize (lg_sl ([.ref v, .int (nI k)]) ++ List.replicate (5 - (lg_sl ([.ref v, .int (nI k)])).length) Slot.unset).toArray = ls at hl ⊢
  have hl : lv_has ls 5 [(0, .ref v), (1, .int (nI k))] := hl
  refine lv_lconst (v := 0) hx hb dV_spreadOf_0 (by decide) ?_
  refine lv_lstore_n (lv' := [(2, .long 0), (0, .ref v), (1, .int (nI k))]) hx hb dV_spreadOf_1 rfl hl (by decide) rfl (fun ls hl => ?_)
  refine lv_iconst (v := 0) hx hb dV_spreadOf_2 (by decide) ?_
  refine lv_istore (lv' := [(4, .int 0), (2, .long 0), (0, .ref v), (1, .int (nI k))]) hx hb dV_spreadOf_3 hl (by decide) rfl (fun ls hl => ?_)
  have lp : ∀ (k9 : Nat) (i : Nat), 5 - i < k9 → (i ≤ 5) → ∀ ls : Array Slot, lv_has ls 5 [(0, .ref v), (1, .int (nI k)), (2, .long (zv_spr surv vo k i)), (4, .int (nI i))] → W p l e ({ frames := 1, cells := 0, slots := 0, locals := 21 } : Room) s m ([.ref v, .int (nI k)] : List Value).toArray below meth c s.heap [] 0 0 (MQ below (zz_Q (.long (zv_spr surv vo k 5))) ([.ref v, .int (nI k)] : List Value).toArray s 0 0 (fun _ => False)) (F0 m 5 ls []) := by
    intro k9
    induction k9 with
    | zero => intro i hk9; exact absurd hk9 (Nat.not_lt_zero _)
    | succ k9 ih_lp =>
      intro i hk9 hi ls hl
      refine lv_iload hx hb dV_spreadOf_5 (lv_at hl 3 rfl) ?_
      refine lv_iconst (v := 5) hx hb dV_spreadOf_7 (by decide) ?_
      refine zz_ige (tgt := 49) hx hb dV_spreadOf_8 (by decide) (fun h1 => ?_) (fun h1 => ?_)
      · have h1n := mt (zz_ltN (a := i) (b := 5) rfl rfl (by omega) (by omega)).mpr h1
        refine lv_lload_n hx hb dV_spreadOf_49 rfl (lv_at hl 2 rfl) ?_
        exact zz_lret hx hb hr hlocks dV_spreadOf_50 (by rw [show i = 5 from by omega])
      · have h1n := (zz_ltN (a := i) (b := 5) rfl rfl (by omega) (by omega)).mp h1
        refine lv_aload_n hx hb dV_spreadOf_11 rfl (lv_at hl 0 rfl) ?_
        refine zz_getV hx hb hT hown hK hP 0 rfl 3 (by decide) tw_104 rfl dV_spreadOf_12 ?_
        refine lv_iload hx hb dV_spreadOf_15 (lv_at hl 3 rfl) ?_
        refine zz_call (va_runS (Ts := []) (As := [.int surv, .int (nI i)]) (own := RV) ⟨hx, hb, hml, hown, fun _ h => nomatch h⟩ (ct_V_has l) (zt_cs hT tc_V_has ts_V_has tw_196 ⟨Nat.le_of_ble_eq_true rfl, Nat.le_of_ble_eq_true rfl⟩) (zz_pre0 hT) rfl rfl hl.1 rfl (lv_room (Nat.le_of_ble_eq_true rfl)) dV_spreadOf_17 ⟨Nat.zero_le _, Nat.zero_le _⟩) ?_
        refine zz_zeq (tgt := 43) hx hb dV_spreadOf_20 (by decide) (fun h2 => ?_) (fun h2 => ?_)
        · refine lv_iinc (k := 3) (v := nI (i + 1)) (lv' := [(4, .int (nI (i + 1))), (0, .ref v), (1, .int (nI k)), (2, .long (zv_spr surv vo k i))]) hx hb dV_spreadOf_43 hl rfl (nI_succ _).symm (by decide) rfl (fun ls hl => ?_)
          refine lv_goto (tgt := 5) hx hb dV_spreadOf_46 (by decide) ?_
          exact ih_lp (i + 1) (by omega) (by omega) _ (by rw [show zv_spr surv vo k (i + 1) = zv_spr surv vo k i from if_pos h2]; exact lv_sub hl [1, 2, 3, 0] rfl)
        · refine lv_lload_n hx hb dV_spreadOf_23 rfl (lv_at hl 2 rfl) ?_
          refine lv_aload_n hx hb dV_spreadOf_24 rfl (lv_at hl 0 rfl) ?_
          refine zz_getV hx hb hT hown hK hP 0 rfl 4 (by decide) tw_106 rfl dV_spreadOf_25 ?_
          refine lv_iload_n hx hb dV_spreadOf_28 rfl (lv_at hl 1 rfl) ?_
          refine zz_lald hx hb hK hP 1 0 rfl rfl k rfl (by first | omega | decide | assumption) (by decide) dV_spreadOf_29 ?_
          refine lv_aload_n hx hb dV_spreadOf_30 rfl (lv_at hl 0 rfl) ?_
          refine zz_getV hx hb hT hown hK hP 0 rfl 4 (by decide) tw_106 rfl dV_spreadOf_31 ?_
          refine lv_iload hx hb dV_spreadOf_34 (lv_at hl 3 rfl) ?_
          refine zz_lald hx hb hK hP 1 0 rfl rfl i rfl (by first | omega | decide | assumption) (by decide) dV_spreadOf_36 ?_
          refine lv_lsub hx hb dV_spreadOf_37 ?_
          refine zz_call (va_runS (Ts := []) (As := [.long ((vo k) - (vo i))]) (own := RV) ⟨hx, hb, hml, hown, fun _ h => nomatch h⟩ (ct_J_abs l) (zt_cs hT tc_J_abs ts_J_abs tw_203 ⟨Nat.le_of_ble_eq_true rfl, Nat.le_of_ble_eq_true rfl⟩) (zz_pre0 hT) rfl rfl hl.1 rfl (lv_room (Nat.le_of_ble_eq_true rfl)) dV_spreadOf_38 ⟨Nat.zero_le _, Nat.zero_le _⟩) ?_
          refine lv_ladd hx hb dV_spreadOf_41 ?_
          refine lv_lstore_n (lv' := [(2, .long ((zv_spr surv vo k i) + (zn_abs ((vo k) - (vo i))))), (0, .ref v), (1, .int (nI k)), (4, .int (nI i))]) hx hb dV_spreadOf_42 rfl hl (by decide) rfl (fun ls hl => ?_)
          refine lv_iinc (k := 3) (v := nI (i + 1)) (lv' := [(4, .int (nI (i + 1))), (2, .long ((zv_spr surv vo k i) + (zn_abs ((vo k) - (vo i))))), (0, .ref v), (1, .int (nI k))]) hx hb dV_spreadOf_43 hl rfl (nI_succ _).symm (by decide) rfl (fun ls hl => ?_)
          refine lv_goto (tgt := 5) hx hb dV_spreadOf_46 (by decide) ?_
          exact ih_lp (i + 1) (by omega) (by omega) _ (by rw [show zv_spr surv vo k (i + 1) = (zv_spr surv vo k i) + (zn_abs ((vo k) - (vo i))) from if_neg h2]; exact lv_sub hl [2, 3, 1, 0] rfl)
  exact lp (5 - 0 + 1) 0 (by omega) (Nat.zero_le _) _ (by rw [show zv_spr surv vo k 0 = 0 from rfl]; rw [show nI 0 = 0 from rfl]; exact lv_sub hl [2, 3, 1, 0] rfl)
set_option maxHeartbeats 4000000 in
set_option maxRecDepth 100000 in
theorem ct_V_isInMost (l : Launch) {dC : Nat → ClassId} {dI : Nat → Nat → Nat} {cJ cI cB cZ cS : ClassId} {v a b : Nat} {cand surv : Int32} {low high : Int64} {vo vd : Nat → Int64} {tm : Int64} : Met l yV_isInMost [Cond.code yV_isInMost cV_isInMost 5 (some .boolean)] { frames := 1, cells := 0, slots := 0, locals := 21 } (va_Pc [.ref v, .long tm] (zz_B (dC, dI) vcl (zz_T cJ cI cB cZ cS) (zv_W v a b cJ cand low high surv vo vd))) (zz_Q (.int (zv_inm cand vo vd tm))) 0 0 (fun _ => False) := by
  refine Met.ofW (cc := cV_isInMost) (maxL := 5) (ret := (some .boolean)) (by decide) rfl ?_
  intro p e s m args below meth c s₁ B hml hv
  obtain ⟨rfl, hT, hP, hK⟩ := hv
  have hx := B.exec
  have hb := B.bytes
  have hr := B.returns
  have hlocks := B.notSynchronized
  have hown : s.vm.findClass RV = some m.cls := findClass_of_methodNamed B.named
  have hl := lv_entry ([.ref v, .long tm]) (n := 5) (Nat.le_of_ble_eq_true rfl)
  rw [lg_entry_eq]
  generalize (lg_sl ([.ref v, .long tm]) ++ List.replicate (5 - (lg_sl ([.ref v, .long tm])).length) Slot.unset).toArray = ls at hl ⊢
  have hl : lv_has ls 5 [(0, .ref v), (1, .long tm)] := hl
  refine lv_iconst (v := 0) hx hb dV_isInMost_0 (by decide) ?_
  refine lv_istore_n (lv' := [(3, .int 0), (0, .ref v), (1, .long tm)]) hx hb dV_isInMost_1 rfl hl (by decide) rfl (fun ls hl => ?_)
  refine lv_iconst (v := 0) hx hb dV_isInMost_2 (by decide) ?_
  refine lv_istore (lv' := [(4, .int 0), (3, .int 0), (0, .ref v), (1, .long tm)]) hx hb dV_isInMost_3 hl (by decide) rfl (fun ls hl => ?_)
  have lp : ∀ (k9 : Nat) (i : Nat), 5 - i < k9 → (i ≤ 5) → ∀ ls : Array Slot, lv_has ls 5 [(0, .ref v), (1, .long tm), (3, .int (nI (zv_hld cand vo vd tm i))), (4, .int (nI i))] → W p l e ({ frames := 1, cells := 0, slots := 0, locals := 21 } : Room) s m ([.ref v, .long tm] : List Value).toArray below meth c s.heap [] 0 0 (MQ below (zz_Q (.int (zv_inm cand vo vd tm))) ([.ref v, .long tm] : List Value).toArray s 0 0 (fun _ => False)) (F0 m 5 ls []) := by
    intro k9
    induction k9 with
    | zero => intro i hk9; exact absurd hk9 (Nat.not_lt_zero _)
    | succ k9 ih_lp =>
      intro i hk9 hi ls hl
      refine lv_iload hx hb dV_isInMost_5 (lv_at hl 3 rfl) ?_
      refine lv_iconst (v := 5) hx hb dV_isInMost_7 (by decide) ?_
      refine zz_ige (tgt := 55) hx hb dV_isInMost_8 (by decide) (fun h1 => ?_) (fun h1 => ?_)
      · have h1n := mt (zz_ltN (a := i) (b := 5) rfl rfl (by omega) (by omega)).mpr h1
        refine lv_iconst (v := 2) hx hb dV_isInMost_55 (by decide) ?_
        refine lv_iload_n hx hb dV_isInMost_56 rfl (lv_at hl 2 rfl) ?_
        refine lv_imul hx hb dV_isInMost_57 ?_
        refine lv_aload_n hx hb dV_isInMost_58 rfl (lv_at hl 0 rfl) ?_
        refine zz_getV hx hb hT hown hK hP 0 rfl 0 (by decide) tw_98 rfl dV_isInMost_59 ?_
        refine zz_call (va_runS (Ts := []) (As := [.int cand]) (own := RV) ⟨hx, hb, hml, hown, fun _ h => nomatch h⟩ (ct_I_bitCount l) (zt_cs hT tc_I_bitCount ts_I_bitCount tw_204 ⟨Nat.le_of_ble_eq_true rfl, Nat.le_of_ble_eq_true rfl⟩) (zz_pre0 hT) rfl rfl hl.1 rfl (lv_room (Nat.le_of_ble_eq_true rfl)) dV_isInMost_62 ⟨Nat.zero_le _, Nat.zero_le _⟩) ?_
        refine zz_ile (tgt := 72) hx hb dV_isInMost_65 (by decide) (fun h2 => ?_) (fun h2 => ?_)
        · refine lv_iconst (v := 0) hx hb dV_isInMost_72 (by decide) ?_
          exact zz_bret hx hb hr hlocks dV_isInMost_73 (by decide) (by have e9 : i = 5 := (by omega); subst e9; exact (if_neg h2).symm)
        · refine lv_iconst (v := 1) hx hb dV_isInMost_68 (by decide) ?_
          refine lv_goto (tgt := 73) hx hb dV_isInMost_69 (by decide) ?_
          exact zz_bret hx hb hr hlocks dV_isInMost_73 (by decide) (by have e9 : i = 5 := (by omega); subst e9; exact (if_pos h2).symm)
      · have h1n := (zz_ltN (a := i) (b := 5) rfl rfl (by omega) (by omega)).mp h1
        refine lv_aload_n hx hb dV_isInMost_11 rfl (lv_at hl 0 rfl) ?_
        refine zz_getV hx hb hT hown hK hP 0 rfl 0 (by decide) tw_98 rfl dV_isInMost_12 ?_
        refine lv_iload hx hb dV_isInMost_15 (lv_at hl 3 rfl) ?_
        refine zz_call (va_runS (Ts := []) (As := [.int cand, .int (nI i)]) (own := RV) ⟨hx, hb, hml, hown, fun _ h => nomatch h⟩ (ct_V_has l) (zt_cs hT tc_V_has ts_V_has tw_196 ⟨Nat.le_of_ble_eq_true rfl, Nat.le_of_ble_eq_true rfl⟩) (zz_pre0 hT) rfl rfl hl.1 rfl (lv_room (Nat.le_of_ble_eq_true rfl)) dV_isInMost_17 ⟨Nat.zero_le _, Nat.zero_le _⟩) ?_
        refine zz_zeq (tgt := 49) hx hb dV_isInMost_20 (by decide) (fun h3 => ?_) (fun h3 => ?_)
        · refine lv_iinc (k := 3) (v := nI (i + 1)) (lv' := [(4, .int (nI (i + 1))), (0, .ref v), (1, .long tm), (3, .int (nI (zv_hld cand vo vd tm i)))]) hx hb dV_isInMost_49 hl rfl (nI_succ _).symm (by decide) rfl (fun ls hl => ?_)
          refine lv_goto (tgt := 5) hx hb dV_isInMost_52 (by decide) ?_
          exact ih_lp (i + 1) (by omega) (by omega) _ (by rw [show nI (zv_hld cand vo vd tm (i + 1)) = nI (zv_hld cand vo vd tm i) from congrArg nI (if_neg (fun q => q.1 h3))]; exact lv_sub hl [1, 2, 3, 0] rfl)
        · refine lv_lload_n hx hb dV_isInMost_23 rfl (lv_at hl 1 rfl) ?_
          refine lv_aload_n hx hb dV_isInMost_24 rfl (lv_at hl 0 rfl) ?_
          refine zz_getV hx hb hT hown hK hP 0 rfl 4 (by decide) tw_106 rfl dV_isInMost_25 ?_
          refine lv_iload hx hb dV_isInMost_28 (lv_at hl 3 rfl) ?_
          refine zz_lald hx hb hK hP 1 0 rfl rfl i rfl (by first | omega | decide | assumption) (by decide) dV_isInMost_30 ?_
          refine lv_lsub hx hb dV_isInMost_31 ?_
          refine zz_call (va_runS (Ts := []) (As := [.long (tm - (vo i))]) (own := RV) ⟨hx, hb, hml, hown, fun _ h => nomatch h⟩ (ct_J_abs l) (zt_cs hT tc_J_abs ts_J_abs tw_203 ⟨Nat.le_of_ble_eq_true rfl, Nat.le_of_ble_eq_true rfl⟩) (zz_pre0 hT) rfl rfl hl.1 rfl (lv_room (Nat.le_of_ble_eq_true rfl)) dV_isInMost_32 ⟨Nat.zero_le _, Nat.zero_le _⟩) ?_
          refine lv_aload_n hx hb dV_isInMost_35 rfl (lv_at hl 0 rfl) ?_
          refine zz_getV hx hb hT hown hK hP 0 rfl 5 (by decide) tw_107 rfl dV_isInMost_36 ?_
          refine lv_iload hx hb dV_isInMost_39 (lv_at hl 3 rfl) ?_
          refine zz_lald hx hb hK hP 2 0 rfl rfl i rfl (by first | omega | decide | assumption) (by decide) dV_isInMost_41 ?_
          refine zz_lgt (tgt := 49) hx hb dV_isInMost_42 dV_isInMost_43 (by decide) (fun h4 => ?_) (fun h4 => ?_)
          · refine lv_iinc (k := 3) (v := nI (i + 1)) (lv' := [(4, .int (nI (i + 1))), (0, .ref v), (1, .long tm), (3, .int (nI (zv_hld cand vo vd tm i)))]) hx hb dV_isInMost_49 hl rfl (nI_succ _).symm (by decide) rfl (fun ls hl => ?_)
            refine lv_goto (tgt := 5) hx hb dV_isInMost_52 (by decide) ?_
            exact ih_lp (i + 1) (by omega) (by omega) _ (by rw [show nI (zv_hld cand vo vd tm (i + 1)) = nI (zv_hld cand vo vd tm i) from congrArg nI (if_neg (fun q => q.2 h4))]; exact lv_sub hl [1, 2, 3, 0] rfl)
          · refine lv_iinc (k := 2) (v := nI ((zv_hld cand vo vd tm i) + 1)) (lv' := [(3, .int (nI ((zv_hld cand vo vd tm i) + 1))), (0, .ref v), (1, .long tm), (4, .int (nI i))]) hx hb dV_isInMost_46 hl rfl (nI_succ _).symm (by decide) rfl (fun ls hl => ?_)
            refine lv_iinc (k := 3) (v := nI (i + 1)) (lv' := [(4, .int (nI (i + 1))), (3, .int (nI ((zv_hld cand vo vd tm i) + 1))), (0, .ref v), (1, .long tm)]) hx hb dV_isInMost_49 hl rfl (nI_succ _).symm (by decide) rfl (fun ls hl => ?_)
            refine lv_goto (tgt := 5) hx hb dV_isInMost_52 (by decide) ?_
            exact ih_lp (i + 1) (by omega) (by omega) _ (by rw [show nI (zv_hld cand vo vd tm (i + 1)) = nI ((zv_hld cand vo vd tm i) + 1) from congrArg nI (if_pos ⟨h3, h4⟩)]; exact lv_sub hl [2, 3, 1, 0] rfl)
  exact lp (5 - 0 + 1) 0 (by omega) (Nat.zero_le _) _ (by rw [show nI (zv_hld cand vo vd tm 0) = 0 from rfl]; rw [show nI 0 = 0 from rfl]; exact lv_sub hl [2, 3, 1, 0] rfl)
set_option maxHeartbeats 4000000 in
set_option maxRecDepth 100000 in
theorem ct_V_combinedOffset (l : Launch) {dC : Nat → ClassId} {dI : Nat → Nat → Nat} {cJ cI cB cZ cS : ClassId} {v a b : Nat} {cand surv : Int32} {low high : Int64} {vo vd : Nat → Int64} : Met l yV_combinedOffset [Cond.code yV_combinedOffset cV_combinedOffset 4 (some .long)] { frames := 1, cells := 0, slots := 0, locals := 25 } (va_Pc [.ref v] (zz_B (dC, dI) vcl (zz_T cJ cI cB cZ cS) (zv_W v a b cJ cand low high surv vo vd))) (zz_Q (.long (zv_cmb surv vo))) 0 0 (fun _ => False) := by
  refine Met.ofW (cc := cV_combinedOffset) (maxL := 4) (ret := (some .long)) (by decide) rfl ?_
  intro p e s m args below meth c s₁ B hml hv
  obtain ⟨rfl, hT, hP, hK⟩ := hv
  have hx := B.exec
  have hb := B.bytes
  have hr := B.returns
  have hlocks := B.notSynchronized
  have hown : s.vm.findClass RV = some m.cls := findClass_of_methodNamed B.named
  have hl := lv_entry ([.ref v]) (n := 4) (Nat.le_of_ble_eq_true rfl)
  rw [lg_entry_eq]
  generalize (lg_sl ([.ref v]) ++ List.replicate (4 - (lg_sl ([.ref v])).length) Slot.unset).toArray = ls at hl ⊢
  have hl : lv_has ls 4 [(0, .ref v)] := hl
  refine lv_lconst (v := 0) hx hb dV_combinedOffset_0 (by decide) ?_
  refine lv_lstore_n (lv' := [(1, .long 0), (0, .ref v)]) hx hb dV_combinedOffset_1 rfl hl (by decide) rfl (fun ls hl => ?_)
  refine lv_iconst (v := 0) hx hb dV_combinedOffset_2 (by decide) ?_
  refine lv_istore_n (lv' := [(3, .int 0), (1, .long 0), (0, .ref v)]) hx hb dV_combinedOffset_3 rfl hl (by decide) rfl (fun ls hl => ?_)
  have lp : ∀ (k9 : Nat) (i : Nat), 5 - i < k9 → (i ≤ 5) → ∀ ls : Array Slot, lv_has ls 4 [(0, .ref v), (1, .long (zv_sum surv vo i)), (3, .int (nI i))] → W p l e ({ frames := 1, cells := 0, slots := 0, locals := 25 } : Room) s m ([.ref v] : List Value).toArray below meth c s.heap [] 0 0 (MQ below (zz_Q (.long (zv_cmb surv vo))) ([.ref v] : List Value).toArray s 0 0 (fun _ => False)) (F0 m 4 ls []) := by
    intro k9
    induction k9 with
    | zero => intro i hk9; exact absurd hk9 (Nat.not_lt_zero _)
    | succ k9 ih_lp =>
      intro i hk9 hi ls hl
      refine lv_iload_n hx hb dV_combinedOffset_4 rfl (lv_at hl 2 rfl) ?_
      refine lv_iconst (v := 5) hx hb dV_combinedOffset_5 (by decide) ?_
      refine zz_ige (tgt := 35) hx hb dV_combinedOffset_6 (by decide) (fun h1 => ?_) (fun h1 => ?_)
      · have h1n := mt (zz_ltN (a := i) (b := 5) rfl rfl (by omega) (by omega)).mpr h1
        refine lv_lload_n hx hb dV_combinedOffset_35 rfl (lv_at hl 1 rfl) ?_
        refine lv_iconst (v := 1) hx hb dV_combinedOffset_36 (by decide) ?_
        refine lv_aload_n hx hb dV_combinedOffset_37 rfl (lv_at hl 0 rfl) ?_
        refine zz_getV hx hb hT hown hK hP 0 rfl 3 (by decide) tw_104 rfl dV_combinedOffset_38 ?_
        refine zz_call (va_runS (Ts := []) (As := [.int surv]) (own := RV) ⟨hx, hb, hml, hown, fun _ h => nomatch h⟩ (ct_I_bitCount l) (zt_cs hT tc_I_bitCount ts_I_bitCount tw_204 ⟨Nat.le_of_ble_eq_true rfl, Nat.le_of_ble_eq_true rfl⟩) (zz_pre0 hT) rfl rfl hl.1 rfl (lv_room (Nat.le_of_ble_eq_true rfl)) dV_combinedOffset_41 ⟨Nat.zero_le _, Nat.zero_le _⟩) ?_
        refine zz_call (va_runS (Ts := []) (As := [.int 1, .int (zn_bc surv)]) (own := RV) ⟨hx, hb, hml, hown, fun _ h => nomatch h⟩ (ct_J_max_7cf5 l) (zt_cs hT tc_J_max_7cf5 ts_J_max_7cf5 tw_557 ⟨Nat.le_of_ble_eq_true rfl, Nat.le_of_ble_eq_true rfl⟩) (zz_pre0 hT) rfl rfl hl.1 rfl (lv_room (Nat.le_of_ble_eq_true rfl)) dV_combinedOffset_44 ⟨Nat.zero_le _, Nat.zero_le _⟩) ?_
        refine lv_i2l (v := Int32.toInt64 (zn_maxi 1 (zn_bc surv))) hx hb dV_combinedOffset_47 rfl ?_
        refine zz_call (va_runS (Ts := []) (As := [.long (zv_sum surv vo i), .long (Int32.toInt64 (zn_maxi 1 (zn_bc surv)))]) (own := RV) ⟨hx, hb, hml, hown, fun _ h => nomatch h⟩ (ct_J_floorDiv l (zv_nz _)) (zt_cs hT tc_J_floorDiv ts_J_floorDiv tw_572 ⟨Nat.le_of_ble_eq_true rfl, Nat.le_of_ble_eq_true rfl⟩) (zz_pre0 hT) rfl rfl hl.1 rfl (lv_room (Nat.le_of_ble_eq_true rfl)) dV_combinedOffset_48 ⟨Nat.zero_le _, Nat.zero_le _⟩) ?_
        exact zz_lret hx hb hr hlocks dV_combinedOffset_51 (by rw [show i = 5 from by omega]; rfl)
      · have h1n := (zz_ltN (a := i) (b := 5) rfl rfl (by omega) (by omega)).mp h1
        refine lv_aload_n hx hb dV_combinedOffset_9 rfl (lv_at hl 0 rfl) ?_
        refine zz_getV hx hb hT hown hK hP 0 rfl 3 (by decide) tw_104 rfl dV_combinedOffset_10 ?_
        refine lv_iload_n hx hb dV_combinedOffset_13 rfl (lv_at hl 2 rfl) ?_
        refine zz_call (va_runS (Ts := []) (As := [.int surv, .int (nI i)]) (own := RV) ⟨hx, hb, hml, hown, fun _ h => nomatch h⟩ (ct_V_has l) (zt_cs hT tc_V_has ts_V_has tw_196 ⟨Nat.le_of_ble_eq_true rfl, Nat.le_of_ble_eq_true rfl⟩) (zz_pre0 hT) rfl rfl hl.1 rfl (lv_room (Nat.le_of_ble_eq_true rfl)) dV_combinedOffset_14 ⟨Nat.zero_le _, Nat.zero_le _⟩) ?_
        refine zz_zeq (tgt := 29) hx hb dV_combinedOffset_17 (by decide) (fun h2 => ?_) (fun h2 => ?_)
        · refine lv_iinc (k := 2) (v := nI (i + 1)) (lv' := [(3, .int (nI (i + 1))), (0, .ref v), (1, .long (zv_sum surv vo i))]) hx hb dV_combinedOffset_29 hl rfl (nI_succ _).symm (by decide) rfl (fun ls hl => ?_)
          refine lv_goto (tgt := 4) hx hb dV_combinedOffset_32 (by decide) ?_
          exact ih_lp (i + 1) (by omega) (by omega) _ (by rw [show zv_sum surv vo (i + 1) = zv_sum surv vo i from if_pos h2]; exact lv_sub hl [1, 2, 0] rfl)
        · refine lv_lload_n hx hb dV_combinedOffset_20 rfl (lv_at hl 1 rfl) ?_
          refine lv_aload_n hx hb dV_combinedOffset_21 rfl (lv_at hl 0 rfl) ?_
          refine zz_getV hx hb hT hown hK hP 0 rfl 4 (by decide) tw_106 rfl dV_combinedOffset_22 ?_
          refine lv_iload_n hx hb dV_combinedOffset_25 rfl (lv_at hl 2 rfl) ?_
          refine zz_lald hx hb hK hP 1 0 rfl rfl i rfl (by first | omega | decide | assumption) (by decide) dV_combinedOffset_26 ?_
          refine lv_ladd hx hb dV_combinedOffset_27 ?_
          refine lv_lstore_n (lv' := [(1, .long ((zv_sum surv vo i) + (vo i))), (0, .ref v), (3, .int (nI i))]) hx hb dV_combinedOffset_28 rfl hl (by decide) rfl (fun ls hl => ?_)
          refine lv_iinc (k := 2) (v := nI (i + 1)) (lv' := [(3, .int (nI (i + 1))), (1, .long ((zv_sum surv vo i) + (vo i))), (0, .ref v)]) hx hb dV_combinedOffset_29 hl rfl (nI_succ _).symm (by decide) rfl (fun ls hl => ?_)
          refine lv_goto (tgt := 4) hx hb dV_combinedOffset_32 (by decide) ?_
          exact ih_lp (i + 1) (by omega) (by omega) _ (by rw [show zv_sum surv vo (i + 1) = (zv_sum surv vo i) + (vo i) from if_neg h2]; exact lv_sub hl [2, 1, 0] rfl)
  exact lp (5 - 0 + 1) 0 (by omega) (Nat.zero_le _) _ (by rw [show zv_sum surv vo 0 = 0 from rfl]; rw [show nI 0 = 0 from rfl]; exact lv_sub hl [2, 1, 0] rfl)
set_option maxHeartbeats 4000000 in
set_option maxRecDepth 100000 in
theorem ct_V_findFarthest (l : Launch) {dC : Nat → ClassId} {dI : Nat → Nat → Nat} {cJ cI cB cZ cS : ClassId} {v a b : Nat} {cand surv : Int32} {low high : Int64} {vo vd : Nat → Int64} : Met l yV_findFarthest [Cond.code yV_findFarthest cV_findFarthest 5 (some .int)] { frames := 2, cells := 0, slots := 0, locals := 45 } (va_Pc [.ref v] (zz_B (dC, dI) vcl (zz_T cJ cI cB cZ cS) (zv_W v a b cJ cand low high surv vo vd))) (zz_Q (.int (nI (zv_ff surv vo 5).1))) 0 0 (fun _ => False) := by
  refine Met.ofW (cc := cV_findFarthest) (maxL := 5) (ret := (some .int)) (by decide) rfl ?_
  intro p e s m args below meth c s₁ B hml hv
  obtain ⟨rfl, hT, hP, hK⟩ := hv
  have hx := B.exec
  have hb := B.bytes
  have hr := B.returns
  have hlocks := B.notSynchronized
  have hown : s.vm.findClass RV = some m.cls := findClass_of_methodNamed B.named
  have hl := lv_entry ([.ref v]) (n := 5) (Nat.le_of_ble_eq_true rfl)
  rw [lg_entry_eq]
  generalize (lg_sl ([.ref v]) ++ List.replicate (5 - (lg_sl ([.ref v])).length) Slot.unset).toArray = ls at hl ⊢
  have hl : lv_has ls 5 [(0, .ref v)] := hl
  refine lv_iconst (v := 0) hx hb dV_findFarthest_0 (by decide) ?_
  refine lv_istore_n (lv' := [(1, .int 0), (0, .ref v)]) hx hb dV_findFarthest_1 rfl hl (by decide) rfl (fun ls hl => ?_)
  refine lv_ldc2 (own := RV) (v := (-1)) hx hb hown (hT.w tw_222) dV_findFarthest_2 ?_
  refine lv_lstore_n (lv' := [(2, .long (-1)), (1, .int 0), (0, .ref v)]) hx hb dV_findFarthest_5 rfl hl (by decide) rfl (fun ls hl => ?_)
  refine lv_iconst (v := 0) hx hb dV_findFarthest_6 (by decide) ?_
  refine lv_istore (lv' := [(4, .int 0), (2, .long (-1)), (1, .int 0), (0, .ref v)]) hx hb dV_findFarthest_7 hl (by decide) rfl (fun ls hl => ?_)
  have lp : ∀ (k9 : Nat) (i : Nat), 5 - i < k9 → (i ≤ 5) → ∀ ls : Array Slot, lv_has ls 5 [(0, .ref v), (1, .int (nI (zv_ff surv vo i).1)), (2, .long ((zv_ff surv vo i).2)), (4, .int (nI i))] → W p l e ({ frames := 2, cells := 0, slots := 0, locals := 45 } : Room) s m ([.ref v] : List Value).toArray below meth c s.heap [] 0 0 (MQ below (zz_Q (.int (nI (zv_ff surv vo 5).1))) ([.ref v] : List Value).toArray s 0 0 (fun _ => False)) (F0 m 9 ls []) := by
    intro k9
    induction k9 with
    | zero => intro i hk9; exact absurd hk9 (Nat.not_lt_zero _)
    | succ k9 ih_lp =>
      intro i hk9 hi ls hl
      refine lv_iload hx hb dV_findFarthest_9 (lv_at hl 3 rfl) ?_
      refine lv_iconst (v := 5) hx hb dV_findFarthest_11 (by decide) ?_
      refine zz_ige (tgt := 54) hx hb dV_findFarthest_12 (by decide) (fun h1 => ?_) (fun h1 => ?_)
      · have h1n := mt (zz_ltN (a := i) (b := 5) rfl rfl (by omega) (by omega)).mpr h1
        refine lv_iload_n hx hb dV_findFarthest_54 rfl (lv_at hl 1 rfl) ?_
        exact zz_iret hx hb hr hlocks dV_findFarthest_55 (by rw [show i = 5 from by omega])
      · have h1n := (zz_ltN (a := i) (b := 5) rfl rfl (by omega) (by omega)).mp h1
        refine lv_aload_n hx hb dV_findFarthest_15 rfl (lv_at hl 0 rfl) ?_
        refine zz_getV hx hb hT hown hK hP 0 rfl 3 (by decide) tw_104 rfl dV_findFarthest_16 ?_
        refine lv_iload hx hb dV_findFarthest_19 (lv_at hl 3 rfl) ?_
        refine zz_call (va_runS (Ts := []) (As := [.int surv, .int (nI i)]) (own := RV) ⟨hx, hb, hml, hown, fun _ h => nomatch h⟩ (ct_V_has l) (zt_cs hT tc_V_has ts_V_has tw_196 ⟨Nat.le_of_ble_eq_true rfl, Nat.le_of_ble_eq_true rfl⟩) (zz_pre0 hT) rfl rfl hl.1 rfl (lv_room (Nat.le_of_ble_eq_true rfl)) dV_findFarthest_21 ⟨Nat.zero_le _, Nat.zero_le _⟩) ?_
        refine zz_zeq (tgt := 48) hx hb dV_findFarthest_24 (by decide) (fun h2 => ?_) (fun h2 => ?_)
        · refine lv_iinc (k := 3) (v := nI (i + 1)) (lv' := [(4, .int (nI (i + 1))), (0, .ref v), (1, .int (nI (zv_ff surv vo i).1)), (2, .long ((zv_ff surv vo i).2))]) hx hb dV_findFarthest_48 hl rfl (nI_succ _).symm (by decide) rfl (fun ls hl => ?_)
          refine lv_goto (tgt := 9) hx hb dV_findFarthest_51 (by decide) ?_
          exact ih_lp (i + 1) (by omega) (by omega) _ (by rw [show nI (zv_ff surv vo (i + 1)).1 = nI (zv_ff surv vo i).1 from congrArg (fun z : Nat × Int64 => nI z.1) (if_neg (fun q => q.1 h2))]; rw [show (zv_ff surv vo (i + 1)).2 = (zv_ff surv vo i).2 from congrArg (fun z : Nat × Int64 => z.2) (if_neg (fun q => q.1 h2))]; exact lv_sub hl [1, 2, 3, 0] rfl)
        · refine lv_aload_n hx hb dV_findFarthest_27 rfl (lv_at hl 0 rfl) ?_
          refine lv_iload hx hb dV_findFarthest_28 (lv_at hl 3 rfl) ?_
          refine zz_call (va_runV (Ts := []) (As := [.int (nI i)]) (own := RV) ⟨hx, hb, hml, hown, fun _ h => nomatch h⟩ (ct_V_spreadOf l (k := i) (by omega)) (zt_cv hT tc_V_spreadOf tv_V_spreadOf tw_223 ⟨Nat.le_of_ble_eq_true rfl, Nat.le_of_ble_eq_true rfl⟩) (zz_preV (q0 := 0) hT hP hK rfl rfl) rfl rfl hl.1 rfl (lv_room (Nat.le_of_ble_eq_true rfl)) dV_findFarthest_30 ⟨Nat.zero_le _, Nat.zero_le _⟩) ?_
          refine lv_lload_n hx hb dV_findFarthest_33 rfl (lv_at hl 2 rfl) ?_
          refine zz_llt (tgt := 48) hx hb dV_findFarthest_34 dV_findFarthest_35 (by decide) (fun h3 => ?_) (fun h3 => ?_)
          · refine lv_iinc (k := 3) (v := nI (i + 1)) (lv' := [(4, .int (nI (i + 1))), (0, .ref v), (1, .int (nI (zv_ff surv vo i).1)), (2, .long ((zv_ff surv vo i).2))]) hx hb dV_findFarthest_48 hl rfl (nI_succ _).symm (by decide) rfl (fun ls hl => ?_)
            refine lv_goto (tgt := 9) hx hb dV_findFarthest_51 (by decide) ?_
            exact ih_lp (i + 1) (by omega) (by omega) _ (by rw [show nI (zv_ff surv vo (i + 1)).1 = nI (zv_ff surv vo i).1 from congrArg (fun z : Nat × Int64 => nI z.1) (if_neg (fun q => q.2 h3))]; rw [show (zv_ff surv vo (i + 1)).2 = (zv_ff surv vo i).2 from congrArg (fun z : Nat × Int64 => z.2) (if_neg (fun q => q.2 h3))]; exact lv_sub hl [1, 2, 3, 0] rfl)
          · refine lv_iload hx hb dV_findFarthest_38 (lv_at hl 3 rfl) ?_
            refine lv_istore_n (lv' := [(1, .int (nI i)), (0, .ref v), (2, .long ((zv_ff surv vo i).2)), (4, .int (nI i))]) hx hb dV_findFarthest_40 rfl hl (by decide) rfl (fun ls hl => ?_)
            refine lv_aload_n hx hb dV_findFarthest_41 rfl (lv_at hl 1 rfl) ?_
            refine lv_iload hx hb dV_findFarthest_42 (lv_at hl 3 rfl) ?_
            refine zz_call (va_runV (Ts := []) (As := [.int (nI i)]) (own := RV) ⟨hx, hb, hml, hown, fun _ h => nomatch h⟩ (ct_V_spreadOf l (k := i) (by omega)) (zt_cv hT tc_V_spreadOf tv_V_spreadOf tw_223 ⟨Nat.le_of_ble_eq_true rfl, Nat.le_of_ble_eq_true rfl⟩) (zz_preV (q0 := 0) hT hP hK rfl rfl) rfl rfl hl.1 rfl (lv_room (Nat.le_of_ble_eq_true rfl)) dV_findFarthest_44 ⟨Nat.zero_le _, Nat.zero_le _⟩) ?_
            refine lv_lstore_n (lv' := [(2, .long (zv_spr surv vo i 5)), (1, .int (nI i)), (0, .ref v), (4, .int (nI i))]) hx hb dV_findFarthest_47 rfl hl (by decide) rfl (fun ls hl => ?_)
            refine lv_iinc (k := 3) (v := nI (i + 1)) (lv' := [(4, .int (nI (i + 1))), (2, .long (zv_spr surv vo i 5)), (1, .int (nI i)), (0, .ref v)]) hx hb dV_findFarthest_48 hl rfl (nI_succ _).symm (by decide) rfl (fun ls hl => ?_)
            refine lv_goto (tgt := 9) hx hb dV_findFarthest_51 (by decide) ?_
            exact ih_lp (i + 1) (by omega) (by omega) _ (by rw [show nI (zv_ff surv vo (i + 1)).1 = nI i from congrArg (fun z : Nat × Int64 => nI z.1) (if_pos ⟨h2, h3⟩)]; rw [show (zv_ff surv vo (i + 1)).2 = zv_spr surv vo i 5 from congrArg (fun z : Nat × Int64 => z.2) (if_pos ⟨h2, h3⟩)]; exact lv_sub hl [3, 2, 1, 0] rfl)
  exact lp (5 - 0 + 1) 0 (by omega) (Nat.zero_le _) _ (by rw [show nI (zv_ff surv vo 0).1 = 0 from rfl]; rw [show (zv_ff surv vo 0).2 = (-1) from rfl]; rw [show nI 0 = 0 from rfl]; exact lv_sub hl [3, 2, 1, 0] rfl)
