/-! The JDK's numbers -/
set_option maxHeartbeats 4000000 in
set_option maxRecDepth 100000 in
theorem ct_J_max_f86c (l : Launch) {x y : Int64} : Met l yJ_max_f86c [Cond.code yJ_max_f86c cJ_max_f86c 4 (some .long)] { frames := 0, cells := 0, slots := 0, locals := 0 } (va_Pc [.long x, .long y] zt_TB) (zz_Q (.long (zn_max x y))) 0 0 (fun _ => False) := by
  refine va_MetF (cc := cJ_max_f86c) (maxL := 4) (ret := (some .long)) (by decide +kernel) rfl ?_
  intro p e s m args below meth c s₁ B hml hv
  obtain ⟨rfl, hT⟩ := hv
  have hx := B.exec
  have hb := B.bytes
  have hr := B.returns
  have hlocks := B.notSynchronized
  have hown : s.vm.findClass RJ = some m.cls := findClass_of_methodNamed B.named
  have hl := lv_entry ([.long x, .long y]) (n := 4) (Nat.le_of_ble_eq_true rfl)
  rw [lg_entry_eq]
  generalize (lg_sl ([.long x, .long y]) ++ List.replicate (4 - (lg_sl ([.long x, .long y])).length) Slot.unset).toArray = ls at hl ⊢
  have hl : lv_has ls 4 [(0, .long x), (2, .long y)] := hl
  refine lv_lload_n hx hb dJ_max_f86c_0 rfl (lv_at hl 0 rfl) ?_
  refine lv_lload_n hx hb dJ_max_f86c_1 rfl (lv_at hl 1 rfl) ?_
  refine zz_llt (tgt := 10) hx hb dJ_max_f86c_2 dJ_max_f86c_3 (by decide) (fun h1 => ?_) (fun h1 => ?_)
  · refine lv_lload_n hx hb dJ_max_f86c_10 rfl (lv_at hl 1 rfl) ?_
    exact zz_lret hx hb hr hlocks dJ_max_f86c_11 (by first | rfl | exact (if_pos h1).symm | exact (if_neg h1).symm)
  · refine lv_lload_n hx hb dJ_max_f86c_6 rfl (lv_at hl 0 rfl) ?_
    refine lv_goto (tgt := 11) hx hb dJ_max_f86c_7 (by decide) ?_
    exact zz_lret hx hb hr hlocks dJ_max_f86c_11 (by first | rfl | exact (if_pos h1).symm | exact (if_neg h1).symm)
set_option maxHeartbeats 4000000 in
set_option maxRecDepth 100000 in
theorem ct_J_min_f86c (l : Launch) {x y : Int64} : Met l yJ_min_f86c [Cond.code yJ_min_f86c cJ_min_f86c 4 (some .long)] { frames := 0, cells := 0, slots := 0, locals := 0 } (va_Pc [.long x, .long y] zt_TB) (zz_Q (.long (zn_min x y))) 0 0 (fun _ => False) := by
  refine va_MetF (cc := cJ_min_f86c) (maxL := 4) (ret := (some .long)) (by decide +kernel) rfl ?_
  intro p e s m args below meth c s₁ B hml hv
  obtain ⟨rfl, hT⟩ := hv
  have hx := B.exec
  have hb := B.bytes
  have hr := B.returns
  have hlocks := B.notSynchronized
  have hown : s.vm.findClass RJ = some m.cls := findClass_of_methodNamed B.named
  have hl := lv_entry ([.long x, .long y]) (n := 4) (Nat.le_of_ble_eq_true rfl)
  rw [lg_entry_eq]
  generalize (lg_sl ([.long x, .long y]) ++ List.replicate (4 - (lg_sl ([.long x, .long y])).length) Slot.unset).toArray = ls at hl ⊢
  have hl : lv_has ls 4 [(0, .long x), (2, .long y)] := hl
  refine lv_lload_n hx hb dJ_min_f86c_0 rfl (lv_at hl 0 rfl) ?_
  refine lv_lload_n hx hb dJ_min_f86c_1 rfl (lv_at hl 1 rfl) ?_
  refine zz_lgt (tgt := 10) hx hb dJ_min_f86c_2 dJ_min_f86c_3 (by decide) (fun h1 => ?_) (fun h1 => ?_)
  · refine lv_lload_n hx hb dJ_min_f86c_10 rfl (lv_at hl 1 rfl) ?_
    exact zz_lret hx hb hr hlocks dJ_min_f86c_11 (by first | rfl | exact (if_pos h1).symm | exact (if_neg h1).symm)
  · refine lv_lload_n hx hb dJ_min_f86c_6 rfl (lv_at hl 0 rfl) ?_
    refine lv_goto (tgt := 11) hx hb dJ_min_f86c_7 (by decide) ?_
    exact zz_lret hx hb hr hlocks dJ_min_f86c_11 (by first | rfl | exact (if_pos h1).symm | exact (if_neg h1).symm)
set_option maxHeartbeats 4000000 in
set_option maxRecDepth 100000 in
theorem ct_J_max_7cf5 (l : Launch) {x y : Int32} : Met l yJ_max_7cf5 [Cond.code yJ_max_7cf5 cJ_max_7cf5 2 (some .int)] { frames := 0, cells := 0, slots := 0, locals := 0 } (va_Pc [.int x, .int y] zt_TB) (zz_Q (.int (zn_maxi x y))) 0 0 (fun _ => False) := by
  refine va_MetF (cc := cJ_max_7cf5) (maxL := 2) (ret := (some .int)) (by decide +kernel) rfl ?_
  intro p e s m args below meth c s₁ B hml hv
  obtain ⟨rfl, hT⟩ := hv
  have hx := B.exec
  have hb := B.bytes
  have hr := B.returns
  have hlocks := B.notSynchronized
  have hown : s.vm.findClass RJ = some m.cls := findClass_of_methodNamed B.named
  have hl := lv_entry ([.int x, .int y]) (n := 2) (Nat.le_of_ble_eq_true rfl)
  rw [lg_entry_eq]
  generalize (lg_sl ([.int x, .int y]) ++ List.replicate (2 - (lg_sl ([.int x, .int y])).length) Slot.unset).toArray = ls at hl ⊢
  have hl : lv_has ls 2 [(0, .int x), (1, .int y)] := hl
  refine lv_iload_n hx hb dJ_max_7cf5_0 rfl (lv_at hl 0 rfl) ?_
  refine lv_iload_n hx hb dJ_max_7cf5_1 rfl (lv_at hl 1 rfl) ?_
  refine zz_ilt (tgt := 9) hx hb dJ_max_7cf5_2 (by decide) (fun h1 => ?_) (fun h1 => ?_)
  · refine lv_iload_n hx hb dJ_max_7cf5_9 rfl (lv_at hl 1 rfl) ?_
    exact zz_iret hx hb hr hlocks dJ_max_7cf5_10 (by first | rfl | exact (if_pos h1).symm | exact (if_neg h1).symm)
  · refine lv_iload_n hx hb dJ_max_7cf5_5 rfl (lv_at hl 0 rfl) ?_
    refine lv_goto (tgt := 10) hx hb dJ_max_7cf5_6 (by decide) ?_
    exact zz_iret hx hb hr hlocks dJ_max_7cf5_10 (by first | rfl | exact (if_pos h1).symm | exact (if_neg h1).symm)
set_option maxHeartbeats 4000000 in
set_option maxRecDepth 100000 in
theorem ct_J_min_7cf5 (l : Launch) {x y : Int32} : Met l yJ_min_7cf5 [Cond.code yJ_min_7cf5 cJ_min_7cf5 2 (some .int)] { frames := 0, cells := 0, slots := 0, locals := 0 } (va_Pc [.int x, .int y] zt_TB) (zz_Q (.int (zn_mini x y))) 0 0 (fun _ => False) := by
  refine va_MetF (cc := cJ_min_7cf5) (maxL := 2) (ret := (some .int)) (by decide +kernel) rfl ?_
  intro p e s m args below meth c s₁ B hml hv
  obtain ⟨rfl, hT⟩ := hv
  have hx := B.exec
  have hb := B.bytes
  have hr := B.returns
  have hlocks := B.notSynchronized
  have hown : s.vm.findClass RJ = some m.cls := findClass_of_methodNamed B.named
  have hl := lv_entry ([.int x, .int y]) (n := 2) (Nat.le_of_ble_eq_true rfl)
  rw [lg_entry_eq]
  generalize (lg_sl ([.int x, .int y]) ++ List.replicate (2 - (lg_sl ([.int x, .int y])).length) Slot.unset).toArray = ls at hl ⊢
  have hl : lv_has ls 2 [(0, .int x), (1, .int y)] := hl
  refine lv_iload_n hx hb dJ_min_7cf5_0 rfl (lv_at hl 0 rfl) ?_
  refine lv_iload_n hx hb dJ_min_7cf5_1 rfl (lv_at hl 1 rfl) ?_
  refine zz_igt (tgt := 9) hx hb dJ_min_7cf5_2 (by decide) (fun h1 => ?_) (fun h1 => ?_)
  · refine lv_iload_n hx hb dJ_min_7cf5_9 rfl (lv_at hl 1 rfl) ?_
    exact zz_iret hx hb hr hlocks dJ_min_7cf5_10 (by first | rfl | exact (if_pos h1).symm | exact (if_neg h1).symm)
  · refine lv_iload_n hx hb dJ_min_7cf5_5 rfl (lv_at hl 0 rfl) ?_
    refine lv_goto (tgt := 10) hx hb dJ_min_7cf5_6 (by decide) ?_
    exact zz_iret hx hb hr hlocks dJ_min_7cf5_10 (by first | rfl | exact (if_pos h1).symm | exact (if_neg h1).symm)
set_option maxHeartbeats 4000000 in
set_option maxRecDepth 100000 in
theorem ct_J_abs (l : Launch) {x : Int64} : Met l yJ_abs [Cond.code yJ_abs cJ_abs 2 (some .long)] { frames := 0, cells := 0, slots := 0, locals := 0 } (va_Pc [.long x] zt_TB) (zz_Q (.long (zn_abs x))) 0 0 (fun _ => False) := by
  refine va_MetF (cc := cJ_abs) (maxL := 2) (ret := (some .long)) (by decide +kernel) rfl ?_
  intro p e s m args below meth c s₁ B hml hv
  obtain ⟨rfl, hT⟩ := hv
  have hx := B.exec
  have hb := B.bytes
  have hr := B.returns
  have hlocks := B.notSynchronized
  have hown : s.vm.findClass RJ = some m.cls := findClass_of_methodNamed B.named
  have hl := lv_entry ([.long x]) (n := 2) (Nat.le_of_ble_eq_true rfl)
  rw [lg_entry_eq]
  generalize (lg_sl ([.long x]) ++ List.replicate (2 - (lg_sl ([.long x])).length) Slot.unset).toArray = ls at hl ⊢
  have hl : lv_has ls 2 [(0, .long x)] := hl
  refine lv_lload_n hx hb dJ_abs_0 rfl (lv_at hl 0 rfl) ?_
  refine lv_lconst (v := 0) hx hb dJ_abs_1 (by decide) ?_
  refine zz_lge (tgt := 11) hx hb dJ_abs_2 dJ_abs_3 (by decide) (fun h1 => ?_) (fun h1 => ?_)
  · refine lv_lload_n hx hb dJ_abs_11 rfl (lv_at hl 0 rfl) ?_
    exact zz_lret hx hb hr hlocks dJ_abs_12 (by first | rfl | exact (if_pos h1).symm | exact (if_neg h1).symm)
  · refine lv_lload_n hx hb dJ_abs_6 rfl (lv_at hl 0 rfl) ?_
    refine lv_lneg hx hb dJ_abs_7 ?_
    refine lv_goto (tgt := 12) hx hb dJ_abs_8 (by decide) ?_
    exact zz_lret hx hb hr hlocks dJ_abs_12 (by first | rfl | exact (if_pos h1).symm | exact (if_neg h1).symm)
set_option maxHeartbeats 4000000 in
set_option maxRecDepth 100000 in
theorem ct_J_floorDiv (l : Launch) {x y : Int64} (hy : ¬ y = 0) : Met l yJ_floorDiv [Cond.code yJ_floorDiv cJ_floorDiv 6 (some .long)] { frames := 0, cells := 0, slots := 0, locals := 0 } (va_Pc [.long x, .long y] zt_TB) (zz_Q (.long (zn_fd x y))) 0 0 (fun _ => False) := by
  refine va_MetF (cc := cJ_floorDiv) (maxL := 6) (ret := (some .long)) (by decide +kernel) rfl ?_
  intro p e s m args below meth c s₁ B hml hv
  obtain ⟨rfl, hT⟩ := hv
  have hx := B.exec
  have hb := B.bytes
  have hr := B.returns
  have hlocks := B.notSynchronized
  have hown : s.vm.findClass RJ = some m.cls := findClass_of_methodNamed B.named
  have hl := lv_entry ([.long x, .long y]) (n := 6) (Nat.le_of_ble_eq_true rfl)
  rw [lg_entry_eq]
  generalize (lg_sl ([.long x, .long y]) ++ List.replicate (6 - (lg_sl ([.long x, .long y])).length) Slot.unset).toArray = ls at hl ⊢
  have hl : lv_has ls 6 [(0, .long x), (2, .long y)] := hl
  refine lv_lload_n hx hb dJ_floorDiv_0 rfl (lv_at hl 0 rfl) ?_
  refine lv_lload_n hx hb dJ_floorDiv_1 rfl (lv_at hl 1 rfl) ?_
  refine lv_ldiv hx hb dJ_floorDiv_2 hy ?_
  refine lv_lstore (lv' := [(4, .long (x / y)), (0, .long x), (2, .long y)]) hx hb dJ_floorDiv_3 hl (by decide) rfl (fun ls hl => ?_)
  refine lv_lload_n hx hb dJ_floorDiv_5 rfl (lv_at hl 1 rfl) ?_
  refine lv_lload_n hx hb dJ_floorDiv_6 rfl (lv_at hl 2 rfl) ?_
  refine lv_lxor hx hb dJ_floorDiv_7 ?_
  refine lv_lconst (v := 0) hx hb dJ_floorDiv_8 (by decide) ?_
  refine zz_lge (tgt := 27) hx hb dJ_floorDiv_9 dJ_floorDiv_10 (by decide) (fun h1 => ?_) (fun h1 => ?_)
  · refine lv_lload hx hb dJ_floorDiv_27 (lv_at hl 0 rfl) ?_
    exact zz_lret hx hb hr hlocks dJ_floorDiv_29 (by unfold zn_fd; first | (rw [if_neg (fun q => h1 q.1)]; done) | (rw [if_neg (fun q => q.2 h2)]; done) | (rw [if_pos ⟨h1, h2⟩]; done))
  · refine lv_lload hx hb dJ_floorDiv_13 (lv_at hl 0 rfl) ?_
    refine lv_lload_n hx hb dJ_floorDiv_15 rfl (lv_at hl 2 rfl) ?_
    refine lv_lmul hx hb dJ_floorDiv_16 ?_
    refine lv_lload_n hx hb dJ_floorDiv_17 rfl (lv_at hl 1 rfl) ?_
    refine zz_leq (tgt := 27) hx hb dJ_floorDiv_18 dJ_floorDiv_19 (by decide) (fun h2 => ?_) (fun h2 => ?_)
    · refine lv_lload hx hb dJ_floorDiv_27 (lv_at hl 0 rfl) ?_
      exact zz_lret hx hb hr hlocks dJ_floorDiv_29 (by unfold zn_fd; first | (rw [if_neg (fun q => h1 q.1)]; done) | (rw [if_neg (fun q => q.2 h2)]; done) | (rw [if_pos ⟨h1, h2⟩]; done))
    · refine lv_lload hx hb dJ_floorDiv_22 (lv_at hl 0 rfl) ?_
      refine lv_lconst (v := 1) hx hb dJ_floorDiv_24 (by decide) ?_
      refine lv_lsub hx hb dJ_floorDiv_25 ?_
      exact zz_lret hx hb hr hlocks dJ_floorDiv_26 (by unfold zn_fd; first | (rw [if_neg (fun q => h1 q.1)]; done) | (rw [if_neg (fun q => q.2 h2)]; done) | (rw [if_pos ⟨h1, h2⟩]; done))
set_option maxHeartbeats 4000000 in
set_option maxRecDepth 100000 in
theorem ct_I_bitCount (l : Launch) {x : Int32} : Met l yI_bitCount [Cond.code yI_bitCount cI_bitCount 1 (some .int)] { frames := 0, cells := 0, slots := 0, locals := 0 } (va_Pc [.int x] zt_TB) (zz_Q (.int (zn_bc x))) 0 0 (fun _ => False) := by
  refine Met.ofW (cc := cI_bitCount) (maxL := 1) (ret := (some .int)) (by decide) rfl ?_
  intro p e s m args below meth c s₁ B hml hv
  obtain ⟨rfl, hT⟩ := hv
  have hx := B.exec
  have hb := B.bytes
  have hr := B.returns
  have hlocks := B.notSynchronized
  have hown : s.vm.findClass RI = some m.cls := findClass_of_methodNamed B.named
  have hl := lv_entry ([.int x]) (n := 1) (Nat.le_of_ble_eq_true rfl)
  rw [lg_entry_eq]
  generalize (lg_sl ([.int x]) ++ List.replicate (1 - (lg_sl ([.int x])).length) Slot.unset).toArray = ls at hl ⊢
  have hl : lv_has ls 1 [(0, .int x)] := hl
  refine lv_iload_n hx hb dI_bitCount_0 rfl (lv_at hl 0 rfl) ?_
  refine lv_iload_n hx hb dI_bitCount_1 rfl (lv_at hl 0 rfl) ?_
  refine lv_iconst (v := 1) hx hb dI_bitCount_2 (by decide) ?_
  refine lv_iushr (v := (Int32.toUInt32 x >>> (Int32.toUInt32 1 &&& Int32.toUInt32 31)).toInt32) hx hb dI_bitCount_3 rfl ?_
  refine lv_ldcw (own := RI) (v := 1431655765) hx hb hown (hT.w tw_207) dI_bitCount_4 ?_
  refine lv_iand hx hb dI_bitCount_7 ?_
  refine lv_isub hx hb dI_bitCount_8 ?_
  refine lv_topi (fun v1 e1 => ?_)
  refine lv_istore_n (lv' := [(0, .int v1)]) hx hb dI_bitCount_9 rfl hl (by decide) rfl (fun ls hl => ?_)
  refine lv_iload_n hx hb dI_bitCount_10 rfl (lv_at hl 0 rfl) ?_
  refine lv_ldcw (own := RI) (v := 858993459) hx hb hown (hT.w tw_208) dI_bitCount_11 ?_
  refine lv_iand hx hb dI_bitCount_14 ?_
  refine lv_iload_n hx hb dI_bitCount_15 rfl (lv_at hl 0 rfl) ?_
  refine lv_iconst (v := 2) hx hb dI_bitCount_16 (by decide) ?_
  refine lv_iushr (v := (Int32.toUInt32 v1 >>> (Int32.toUInt32 2 &&& Int32.toUInt32 31)).toInt32) hx hb dI_bitCount_17 rfl ?_
  refine lv_ldcw (own := RI) (v := 858993459) hx hb hown (hT.w tw_208) dI_bitCount_18 ?_
  refine lv_iand hx hb dI_bitCount_21 ?_
  refine lv_iadd hx hb dI_bitCount_22 ?_
  refine lv_topi (fun v2 e2 => ?_)
  refine lv_istore_n (lv' := [(0, .int v2)]) hx hb dI_bitCount_23 rfl hl (by decide) rfl (fun ls hl => ?_)
  refine lv_iload_n hx hb dI_bitCount_24 rfl (lv_at hl 0 rfl) ?_
  refine lv_iload_n hx hb dI_bitCount_25 rfl (lv_at hl 0 rfl) ?_
  refine lv_iconst (v := 4) hx hb dI_bitCount_26 (by decide) ?_
  refine lv_iushr (v := (Int32.toUInt32 v2 >>> (Int32.toUInt32 4 &&& Int32.toUInt32 31)).toInt32) hx hb dI_bitCount_27 rfl ?_
  refine lv_iadd hx hb dI_bitCount_28 ?_
  refine lv_ldcw (own := RI) (v := 252645135) hx hb hown (hT.w tw_209) dI_bitCount_29 ?_
  refine lv_iand hx hb dI_bitCount_32 ?_
  refine lv_topi (fun v3 e3 => ?_)
  refine lv_istore_n (lv' := [(0, .int v3)]) hx hb dI_bitCount_33 rfl hl (by decide) rfl (fun ls hl => ?_)
  refine lv_iload_n hx hb dI_bitCount_34 rfl (lv_at hl 0 rfl) ?_
  refine lv_iload_n hx hb dI_bitCount_35 rfl (lv_at hl 0 rfl) ?_
  refine lv_bipush (v := 8) hx hb dI_bitCount_36 (by decide) ?_
  refine lv_iushr (v := (Int32.toUInt32 v3 >>> (Int32.toUInt32 8 &&& Int32.toUInt32 31)).toInt32) hx hb dI_bitCount_38 rfl ?_
  refine lv_iadd hx hb dI_bitCount_39 ?_
  refine lv_topi (fun v4 e4 => ?_)
  refine lv_istore_n (lv' := [(0, .int v4)]) hx hb dI_bitCount_40 rfl hl (by decide) rfl (fun ls hl => ?_)
  refine lv_iload_n hx hb dI_bitCount_41 rfl (lv_at hl 0 rfl) ?_
  refine lv_iload_n hx hb dI_bitCount_42 rfl (lv_at hl 0 rfl) ?_
  refine lv_bipush (v := 16) hx hb dI_bitCount_43 (by decide) ?_
  refine lv_iushr (v := (Int32.toUInt32 v4 >>> (Int32.toUInt32 16 &&& Int32.toUInt32 31)).toInt32) hx hb dI_bitCount_45 rfl ?_
  refine lv_iadd hx hb dI_bitCount_46 ?_
  refine lv_topi (fun v5 e5 => ?_)
  refine lv_istore_n (lv' := [(0, .int v5)]) hx hb dI_bitCount_47 rfl hl (by decide) rfl (fun ls hl => ?_)
  refine lv_iload_n hx hb dI_bitCount_48 rfl (lv_at hl 0 rfl) ?_
  refine lv_bipush (v := 63) hx hb dI_bitCount_49 (by decide) ?_
  refine lv_iand hx hb dI_bitCount_51 ?_
  exact zz_iret hx hb hr hlocks dI_bitCount_52 (by subst e5; subst e4; subst e3; subst e2; subst e1; rfl)
