/-! Fields by class, calls by method -/
theorem zi_P : ∀ w ∈ u_ws RP TP 1, w ∈ lw_tbl := by decide +kernel
theorem zg_P : (u_ws RP TP 1).all goodWord = true := by decide +kernel
theorem zi_S : ∀ w ∈ u_ws RS TS 12, w ∈ lw_tbl := by decide +kernel
theorem zg_S : (u_ws RS TS 12).all goodWord = true := by decide +kernel
theorem zi_V : ∀ w ∈ u_ws RV TV 6, w ∈ lw_tbl := by decide +kernel
theorem zg_V : (u_ws RV TV 6).all goodWord = true := by decide +kernel
theorem zi_C : ∀ w ∈ u_ws RC TC 6, w ∈ lw_tbl := by decide +kernel
theorem zg_C : (u_ws RC TC 6).all goodWord = true := by decide +kernel
theorem zi_M : ∀ w ∈ u_ws RM TM 20, w ∈ lw_tbl := by decide +kernel
theorem zg_M : (u_ws RM TM 20).all goodWord = true := by decide +kernel
section ZF
variable {p : Program} {l : Launch} {e : Env} {R : Room} {s : State} {m : MethodId} {args : Array Value} {below : List Frame} {meth : Method} {c : Code} {H H0 : Heap} {locs : List Loc} {cells slots : Nat} {Q : State → Prop} {A : Nat → Prop}
variable {cc : ByteArray} {pc index q0 a : Nat} {ls : Array Slot} {rest : List Value} {D : va_G} {tys : List (ClassId × FieldType)} {ws : va_W} {fs : List Value} {own : String} {v : Value}
theorem zz_getP (hexec : p.tables.exec = Jvm.exec) (hb : c.code = cc) (hT : zt_TB s) (hown : s.vm.findClass own = some m.cls) (hK : va_K D vcl tys s) (hP : va_P D vcl ws H) (q0 : Nat) (he : ws[q0]? = some (a, .inr (0, fs))) (k : Nat) (hk : k < 1) (hl : Cond.fieldLink own index (TP k).1 (TP k).2.1 (TP k).2.2.1 ∈ lw_tbl) (hv : fs[k]? = some v) (hdg : decode cc pc = .ok (.getfield index, 3))
    (kk : W p l e R s m args below meth c H locs cells slots Q (F0 m (pc + 3) ls (v :: rest))) : W p l e R s m args below meth c H locs cells slots Q (F0 m pc ls (.ref a :: rest)) :=
  va_get (C := RP) (T := TP) (N := 1) hexec hb (hT.ws zi_P zg_P) (fun _ h => h) hown hK hP q0 he rfl k hk (hT.w hl) (fun _ h => h) hv hdg kk
theorem zz_putP (hexec : p.tables.exec = Jvm.exec) (hb : c.code = cc) (hT : zt_TB s) (hown : s.vm.findClass own = some m.cls) (hK : va_K D vcl tys s) (hP : va_P D vcl ws H) (hD : va_D A ws) (hS : va_S A H0 H locs) (q0 : Nat) (he : ws[q0]? = some (a, .inr (0, fs))) (k : Nat) (hk : k < 1) (hl : Cond.fieldLink own index (TP k).1 (TP k).2.1 (TP k).2.2.1 ∈ lw_tbl) (hfin : (TP k).2.2.2 = false) {ty : FieldType} (hd : parseFieldDescriptor (TP k).2.2.1 = some ty) (hn : narrow ty v = v) (hfit : fits ty v = true) (hln : k < fs.length) (hdg : decode cc pc = .ok (.putfield index, 3))
    (kk : ∀ (H1 : Heap) (locs1 : List Loc), va_P D vcl (ws.set q0 (a, .inr (0, fs.set k v))) H1 → va_D A (ws.set q0 (a, .inr (0, fs.set k v))) → va_S A H0 H1 locs1 → W p l e R s m args below meth c H1 locs1 cells slots Q (F0 m (pc + 3) ls rest)) : W p l e R s m args below meth c H locs cells slots Q (F0 m pc ls (v :: .ref a :: rest)) :=
  va_put (C := RP) (T := TP) (N := 1) hexec hb (hT.ws zi_P zg_P) (fun _ h => h) tyP tyP_ok nmP hown hK hP hD hS q0 he rfl k hk (hT.w hl) (fun _ h => h) hfin hd hn hfit hln hdg kk
theorem zz_getS (hexec : p.tables.exec = Jvm.exec) (hb : c.code = cc) (hT : zt_TB s) (hown : s.vm.findClass own = some m.cls) (hK : va_K D vcl tys s) (hP : va_P D vcl ws H) (q0 : Nat) (he : ws[q0]? = some (a, .inr (1, fs))) (k : Nat) (hk : k < 12) (hl : Cond.fieldLink own index (TS k).1 (TS k).2.1 (TS k).2.2.1 ∈ lw_tbl) (hv : fs[k]? = some v) (hdg : decode cc pc = .ok (.getfield index, 3))
    (kk : W p l e R s m args below meth c H locs cells slots Q (F0 m (pc + 3) ls (v :: rest))) : W p l e R s m args below meth c H locs cells slots Q (F0 m pc ls (.ref a :: rest)) :=
  va_get (C := RS) (T := TS) (N := 12) hexec hb (hT.ws zi_S zg_S) (fun _ h => h) hown hK hP q0 he rfl k hk (hT.w hl) (fun _ h => h) hv hdg kk
theorem zz_putS (hexec : p.tables.exec = Jvm.exec) (hb : c.code = cc) (hT : zt_TB s) (hown : s.vm.findClass own = some m.cls) (hK : va_K D vcl tys s) (hP : va_P D vcl ws H) (hD : va_D A ws) (hS : va_S A H0 H locs) (q0 : Nat) (he : ws[q0]? = some (a, .inr (1, fs))) (k : Nat) (hk : k < 12) (hl : Cond.fieldLink own index (TS k).1 (TS k).2.1 (TS k).2.2.1 ∈ lw_tbl) (hfin : (TS k).2.2.2 = false) {ty : FieldType} (hd : parseFieldDescriptor (TS k).2.2.1 = some ty) (hn : narrow ty v = v) (hfit : fits ty v = true) (hln : k < fs.length) (hdg : decode cc pc = .ok (.putfield index, 3))
    (kk : ∀ (H1 : Heap) (locs1 : List Loc), va_P D vcl (ws.set q0 (a, .inr (1, fs.set k v))) H1 → va_D A (ws.set q0 (a, .inr (1, fs.set k v))) → va_S A H0 H1 locs1 → W p l e R s m args below meth c H1 locs1 cells slots Q (F0 m (pc + 3) ls rest)) : W p l e R s m args below meth c H locs cells slots Q (F0 m pc ls (v :: .ref a :: rest)) :=
  va_put (C := RS) (T := TS) (N := 12) hexec hb (hT.ws zi_S zg_S) (fun _ h => h) tyS tyS_ok nmS hown hK hP hD hS q0 he rfl k hk (hT.w hl) (fun _ h => h) hfin hd hn hfit hln hdg kk
theorem zz_getV (hexec : p.tables.exec = Jvm.exec) (hb : c.code = cc) (hT : zt_TB s) (hown : s.vm.findClass own = some m.cls) (hK : va_K D vcl tys s) (hP : va_P D vcl ws H) (q0 : Nat) (he : ws[q0]? = some (a, .inr (2, fs))) (k : Nat) (hk : k < 6) (hl : Cond.fieldLink own index (TV k).1 (TV k).2.1 (TV k).2.2.1 ∈ lw_tbl) (hv : fs[k]? = some v) (hdg : decode cc pc = .ok (.getfield index, 3))
    (kk : W p l e R s m args below meth c H locs cells slots Q (F0 m (pc + 3) ls (v :: rest))) : W p l e R s m args below meth c H locs cells slots Q (F0 m pc ls (.ref a :: rest)) :=
  va_get (C := RV) (T := TV) (N := 6) hexec hb (hT.ws zi_V zg_V) (fun _ h => h) hown hK hP q0 he rfl k hk (hT.w hl) (fun _ h => h) hv hdg kk
theorem zz_putV (hexec : p.tables.exec = Jvm.exec) (hb : c.code = cc) (hT : zt_TB s) (hown : s.vm.findClass own = some m.cls) (hK : va_K D vcl tys s) (hP : va_P D vcl ws H) (hD : va_D A ws) (hS : va_S A H0 H locs) (q0 : Nat) (he : ws[q0]? = some (a, .inr (2, fs))) (k : Nat) (hk : k < 6) (hl : Cond.fieldLink own index (TV k).1 (TV k).2.1 (TV k).2.2.1 ∈ lw_tbl) (hfin : (TV k).2.2.2 = false) {ty : FieldType} (hd : parseFieldDescriptor (TV k).2.2.1 = some ty) (hn : narrow ty v = v) (hfit : fits ty v = true) (hln : k < fs.length) (hdg : decode cc pc = .ok (.putfield index, 3))
    (kk : ∀ (H1 : Heap) (locs1 : List Loc), va_P D vcl (ws.set q0 (a, .inr (2, fs.set k v))) H1 → va_D A (ws.set q0 (a, .inr (2, fs.set k v))) → va_S A H0 H1 locs1 → W p l e R s m args below meth c H1 locs1 cells slots Q (F0 m (pc + 3) ls rest)) : W p l e R s m args below meth c H locs cells slots Q (F0 m pc ls (v :: .ref a :: rest)) :=
  va_put (C := RV) (T := TV) (N := 6) hexec hb (hT.ws zi_V zg_V) (fun _ h => h) tyV tyV_ok nmV hown hK hP hD hS q0 he rfl k hk (hT.w hl) (fun _ h => h) hfin hd hn hfit hln hdg kk
theorem zz_getC (hexec : p.tables.exec = Jvm.exec) (hb : c.code = cc) (hT : zt_TB s) (hown : s.vm.findClass own = some m.cls) (hK : va_K D vcl tys s) (hP : va_P D vcl ws H) (q0 : Nat) (he : ws[q0]? = some (a, .inr (3, fs))) (k : Nat) (hk : k < 6) (hl : Cond.fieldLink own index (TC k).1 (TC k).2.1 (TC k).2.2.1 ∈ lw_tbl) (hv : fs[k]? = some v) (hdg : decode cc pc = .ok (.getfield index, 3))
    (kk : W p l e R s m args below meth c H locs cells slots Q (F0 m (pc + 3) ls (v :: rest))) : W p l e R s m args below meth c H locs cells slots Q (F0 m pc ls (.ref a :: rest)) :=
  va_get (C := RC) (T := TC) (N := 6) hexec hb (hT.ws zi_C zg_C) (fun _ h => h) hown hK hP q0 he rfl k hk (hT.w hl) (fun _ h => h) hv hdg kk
theorem zz_putC (hexec : p.tables.exec = Jvm.exec) (hb : c.code = cc) (hT : zt_TB s) (hown : s.vm.findClass own = some m.cls) (hK : va_K D vcl tys s) (hP : va_P D vcl ws H) (hD : va_D A ws) (hS : va_S A H0 H locs) (q0 : Nat) (he : ws[q0]? = some (a, .inr (3, fs))) (k : Nat) (hk : k < 6) (hl : Cond.fieldLink own index (TC k).1 (TC k).2.1 (TC k).2.2.1 ∈ lw_tbl) (hfin : (TC k).2.2.2 = false) {ty : FieldType} (hd : parseFieldDescriptor (TC k).2.2.1 = some ty) (hn : narrow ty v = v) (hfit : fits ty v = true) (hln : k < fs.length) (hdg : decode cc pc = .ok (.putfield index, 3))
    (kk : ∀ (H1 : Heap) (locs1 : List Loc), va_P D vcl (ws.set q0 (a, .inr (3, fs.set k v))) H1 → va_D A (ws.set q0 (a, .inr (3, fs.set k v))) → va_S A H0 H1 locs1 → W p l e R s m args below meth c H1 locs1 cells slots Q (F0 m (pc + 3) ls rest)) : W p l e R s m args below meth c H locs cells slots Q (F0 m pc ls (v :: .ref a :: rest)) :=
  va_put (C := RC) (T := TC) (N := 6) hexec hb (hT.ws zi_C zg_C) (fun _ h => h) tyC tyC_ok nmC hown hK hP hD hS q0 he rfl k hk (hT.w hl) (fun _ h => h) hfin hd hn hfit hln hdg kk
theorem zz_getM (hexec : p.tables.exec = Jvm.exec) (hb : c.code = cc) (hT : zt_TB s) (hown : s.vm.findClass own = some m.cls) (hK : va_K D vcl tys s) (hP : va_P D vcl ws H) (q0 : Nat) (he : ws[q0]? = some (a, .inr (4, fs))) (k : Nat) (hk : k < 20) (hl : Cond.fieldLink own index (TM k).1 (TM k).2.1 (TM k).2.2.1 ∈ lw_tbl) (hv : fs[k]? = some v) (hdg : decode cc pc = .ok (.getfield index, 3))
    (kk : W p l e R s m args below meth c H locs cells slots Q (F0 m (pc + 3) ls (v :: rest))) : W p l e R s m args below meth c H locs cells slots Q (F0 m pc ls (.ref a :: rest)) :=
  va_get (C := RM) (T := TM) (N := 20) hexec hb (hT.ws zi_M zg_M) (fun _ h => h) hown hK hP q0 he rfl k hk (hT.w hl) (fun _ h => h) hv hdg kk
theorem zz_putM (hexec : p.tables.exec = Jvm.exec) (hb : c.code = cc) (hT : zt_TB s) (hown : s.vm.findClass own = some m.cls) (hK : va_K D vcl tys s) (hP : va_P D vcl ws H) (hD : va_D A ws) (hS : va_S A H0 H locs) (q0 : Nat) (he : ws[q0]? = some (a, .inr (4, fs))) (k : Nat) (hk : k < 20) (hl : Cond.fieldLink own index (TM k).1 (TM k).2.1 (TM k).2.2.1 ∈ lw_tbl) (hfin : (TM k).2.2.2 = false) {ty : FieldType} (hd : parseFieldDescriptor (TM k).2.2.1 = some ty) (hn : narrow ty v = v) (hfit : fits ty v = true) (hln : k < fs.length) (hdg : decode cc pc = .ok (.putfield index, 3))
    (kk : ∀ (H1 : Heap) (locs1 : List Loc), va_P D vcl (ws.set q0 (a, .inr (4, fs.set k v))) H1 → va_D A (ws.set q0 (a, .inr (4, fs.set k v))) → va_S A H0 H1 locs1 → W p l e R s m args below meth c H1 locs1 cells slots Q (F0 m (pc + 3) ls rest)) : W p l e R s m args below meth c H locs cells slots Q (F0 m pc ls (v :: .ref a :: rest)) :=
  va_put (C := RM) (T := TM) (N := 20) hexec hb (hT.ws zi_M zg_M) (fun _ h => h) tyM tyM_ok nmM hown hK hP hD hS q0 he rfl k hk (hT.w hl) (fun _ h => h) hfin hd hn hfit hln hdg kk
end ZF
theorem tc_C_init : zt_M yC_init cC_init 2 none 0 := ⟨tw_20, tw_1, by decide, by decide, by decide +kernel⟩
theorem tc_P_init : zt_M yP_init cP_init 1 none 0 := ⟨tw_28, tw_2, by decide, by decide, by decide +kernel⟩
theorem tc_S_init : zt_M yS_init cS_init 1 none 0 := ⟨tw_40, tw_3, by decide, by decide, by decide +kernel⟩
theorem tc_V_init : zt_M yV_init cV_init 1 none 0 := ⟨tw_94, tw_4, by decide, by decide, by decide +kernel⟩
theorem tc_C_local : zt_M yC_local cC_local 1 (some .long) 0 := ⟨tw_143, tw_1, by decide, by decide, by decide +kernel⟩
theorem tv_C_local : Cond.instanceMethod yC_local ∈ lw_tbl ∧ Cond.selects yC_local.cls yC_local yC_local ∈ lw_tbl := ⟨tw_141, tw_142⟩
theorem tc_C_slew : zt_M yC_slew cC_slew 1 (some .long) 0 := ⟨tw_147, tw_1, by decide, by decide, by decide +kernel⟩
theorem tv_C_slew : Cond.instanceMethod yC_slew ∈ lw_tbl ∧ Cond.selects yC_slew.cls yC_slew yC_slew ∈ lw_tbl := ⟨tw_145, tw_146⟩
theorem tc_C_candidates : zt_M yC_candidates cC_candidates 1 (some .int) 0 := ⟨tw_151, tw_1, by decide, by decide, by decide +kernel⟩
theorem tv_C_candidates : Cond.instanceMethod yC_candidates ∈ lw_tbl ∧ Cond.selects yC_candidates.cls yC_candidates yC_candidates ∈ lw_tbl := ⟨tw_149, tw_150⟩
theorem tc_V_hold : zt_M yV_hold cV_hold 4 none 2 := ⟨tw_155, tw_4, by decide, by decide, by decide +kernel⟩
theorem tv_V_hold : Cond.instanceMethod yV_hold ∈ lw_tbl ∧ Cond.selects yV_hold.cls yV_hold yV_hold ∈ lw_tbl := ⟨tw_153, tw_154⟩
theorem tc_V_findCandidates : zt_M yV_findCandidates cV_findCandidates 6 none 2 := ⟨tw_159, tw_4, by decide, by decide, by decide +kernel⟩
theorem tv_V_findCandidates : Cond.instanceMethod yV_findCandidates ∈ lw_tbl ∧ Cond.selects yV_findCandidates.cls yV_findCandidates yV_findCandidates ∈ lw_tbl := ⟨tw_158, zt_inp (i := 0) rfl⟩
theorem tc_S_bestOffset : zt_M yS_bestOffset cS_bestOffset 3 (some .long) 1 := ⟨tw_163, tw_3, by decide, by decide, by decide +kernel⟩
theorem tv_S_bestOffset : Cond.instanceMethod yS_bestOffset ∈ lw_tbl ∧ Cond.selects yS_bestOffset.cls yS_bestOffset yS_bestOffset ∈ lw_tbl := ⟨tw_161, tw_162⟩
theorem tc_S_bestAt : zt_M yS_bestAt cS_bestAt 5 (some .int) 1 := ⟨tw_167, tw_3, by decide, by decide, by decide +kernel⟩
theorem tv_S_bestAt : Cond.instanceMethod yS_bestAt ∈ lw_tbl ∧ Cond.selects yS_bestAt.cls yS_bestAt yS_bestAt ∈ lw_tbl := ⟨tw_166, zt_inp (i := 1) rfl⟩
theorem tc_S_distanceOf : zt_M yS_distanceOf cS_distanceOf 6 (some .long) 2 := ⟨tw_171, tw_3, by decide, by decide, by decide +kernel⟩
theorem tv_S_distanceOf : Cond.instanceMethod yS_distanceOf ∈ lw_tbl ∧ Cond.selects yS_distanceOf.cls yS_distanceOf yS_distanceOf ∈ lw_tbl := ⟨tw_170, zt_inp (i := 2) rfl⟩
theorem tc_J_floorDiv : zt_M yJ_floorDiv cJ_floorDiv 6 (some .long) 2 := ⟨tw_176, tw_10, by decide, by decide, by decide +kernel⟩
theorem ts_J_floorDiv : Cond.static yJ_floorDiv ∈ lw_tbl := tw_175
theorem tc_S_rootDistance : zt_M yS_rootDistance cS_rootDistance 4 (some .long) 1 := ⟨tw_180, tw_3, by decide, by decide, by decide +kernel⟩
theorem tv_S_rootDistance : Cond.instanceMethod yS_rootDistance ∈ lw_tbl ∧ Cond.selects yS_rootDistance.cls yS_rootDistance yS_rootDistance ∈ lw_tbl := ⟨tw_178, tw_179⟩
theorem tc_S_farthestFrom : zt_M yS_farthestFrom cS_farthestFrom 6 (some .long) 1 := ⟨tw_184, tw_3, by decide, by decide, by decide +kernel⟩
theorem tv_S_farthestFrom : Cond.instanceMethod yS_farthestFrom ∈ lw_tbl ∧ Cond.selects yS_farthestFrom.cls yS_farthestFrom yS_farthestFrom ∈ lw_tbl := ⟨tw_183, zt_inp (i := 3) rfl⟩
theorem tc_J_abs : zt_M yJ_abs cJ_abs 2 (some .long) 1 := ⟨tw_187, tw_10, by decide, by decide, by decide +kernel⟩
theorem ts_J_abs : Cond.static yJ_abs ∈ lw_tbl := tw_186
theorem tc_J_max_f86c : zt_M yJ_max_f86c cJ_max_f86c 4 (some .long) 2 := ⟨tw_190, tw_10, by decide, by decide, by decide +kernel⟩
theorem ts_J_max_f86c : Cond.static yJ_max_f86c ∈ lw_tbl := tw_189
theorem tc_V_findBounds : zt_M yV_findBounds cV_findBounds 6 none 0 := ⟨tw_195, tw_4, by decide, by decide, by decide +kernel⟩
theorem tv_V_findBounds : Cond.instanceMethod yV_findBounds ∈ lw_tbl ∧ Cond.selects yV_findBounds.cls yV_findBounds yV_findBounds ∈ lw_tbl := ⟨tw_194, zt_inp (i := 4) rfl⟩
theorem tc_V_has : zt_M yV_has cV_has 2 (some .boolean) 2 := ⟨tw_198, tw_4, by decide, by decide, by decide +kernel⟩
theorem ts_V_has : Cond.static yV_has ∈ lw_tbl := tw_197
theorem tc_V_isInMost : zt_M yV_isInMost cV_isInMost 5 (some .boolean) 1 := ⟨tw_202, tw_4, by decide, by decide, by decide +kernel⟩
theorem tv_V_isInMost : Cond.instanceMethod yV_isInMost ∈ lw_tbl ∧ Cond.selects yV_isInMost.cls yV_isInMost yV_isInMost ∈ lw_tbl := ⟨tw_201, zt_inp (i := 5) rfl⟩
theorem tc_I_bitCount : zt_M yI_bitCount cI_bitCount 1 (some .int) 1 := ⟨tw_206, tw_14, by decide, by decide, by decide +kernel⟩
theorem ts_I_bitCount : Cond.static yI_bitCount ∈ lw_tbl := tw_205
theorem tc_J_min_f86c : zt_M yJ_min_f86c cJ_min_f86c 4 (some .long) 2 := ⟨tw_212, tw_10, by decide, by decide, by decide +kernel⟩
theorem ts_J_min_f86c : Cond.static yJ_min_f86c ∈ lw_tbl := tw_211
theorem tc_V_findSurvivors : zt_M yV_findSurvivors cV_findSurvivors 2 none 0 := ⟨tw_217, tw_4, by decide, by decide, by decide +kernel⟩
theorem tv_V_findSurvivors : Cond.instanceMethod yV_findSurvivors ∈ lw_tbl ∧ Cond.selects yV_findSurvivors.cls yV_findSurvivors yV_findSurvivors ∈ lw_tbl := ⟨tw_216, zt_inp (i := 6) rfl⟩
theorem tc_V_findFarthest : zt_M yV_findFarthest cV_findFarthest 5 (some .int) 0 := ⟨tw_221, tw_4, by decide, by decide, by decide +kernel⟩
theorem tv_V_findFarthest : Cond.instanceMethod yV_findFarthest ∈ lw_tbl ∧ Cond.selects yV_findFarthest.cls yV_findFarthest yV_findFarthest ∈ lw_tbl := ⟨tw_220, zt_inp (i := 7) rfl⟩
theorem tc_V_spreadOf : zt_M yV_spreadOf cV_spreadOf 5 (some .long) 1 := ⟨tw_226, tw_4, by decide, by decide, by decide +kernel⟩
theorem tv_V_spreadOf : Cond.instanceMethod yV_spreadOf ∈ lw_tbl ∧ Cond.selects yV_spreadOf.cls yV_spreadOf yV_spreadOf ∈ lw_tbl := ⟨tw_225, zt_inp (i := 8) rfl⟩
theorem tc_C_survivors : zt_M yC_survivors cC_survivors 1 (some .int) 0 := ⟨tw_230, tw_1, by decide, by decide, by decide +kernel⟩
theorem tv_C_survivors : Cond.instanceMethod yC_survivors ∈ lw_tbl ∧ Cond.selects yC_survivors.cls yC_survivors yC_survivors ∈ lw_tbl := ⟨tw_228, tw_229⟩
theorem tc_C_run : zt_M yC_run cC_run 7 none 1 := ⟨tw_238, tw_1, by decide, by decide, by decide +kernel⟩
theorem tv_C_run : Cond.instanceMethod yC_run ∈ lw_tbl ∧ Cond.selects yC_run.cls yC_run yC_run ∈ lw_tbl := ⟨tw_236, tw_237⟩
theorem tc_C_put : zt_M yC_put cC_put 5 none 3 := ⟨tw_315, tw_1, by decide, by decide, by decide +kernel⟩
theorem tv_C_put : Cond.instanceMethod yC_put ∈ lw_tbl ∧ Cond.selects yC_put.cls yC_put yC_put ∈ lw_tbl := ⟨tw_313, tw_314⟩
theorem tc_P_write : zt_M yP_write cP_write 6 none 3 := ⟨tw_334, tw_2, by decide, by decide, by decide +kernel⟩
theorem tv_P_write : Cond.instanceMethod yP_write ∈ lw_tbl ∧ Cond.selects yP_write.cls yP_write yP_write ∈ lw_tbl := ⟨tw_332, tw_333⟩
theorem tc_C_echo : zt_M yC_echo cC_echo 7 none 3 := ⟨tw_342, tw_1, by decide, by decide, by decide +kernel⟩
theorem tv_C_echo : Cond.instanceMethod yC_echo ∈ lw_tbl ∧ Cond.selects yC_echo.cls yC_echo yC_echo ∈ lw_tbl := ⟨tw_340, tw_341⟩
theorem tc_C_serverAt : zt_M yC_serverAt cC_serverAt 2 (some (.object "StrataClient$Server")) 1 := ⟨tw_346, tw_1, by decide, by decide, by decide +kernel⟩
theorem tv_C_serverAt : Cond.instanceMethod yC_serverAt ∈ lw_tbl ∧ Cond.selects yC_serverAt.cls yC_serverAt yC_serverAt ∈ lw_tbl := ⟨tw_345, zt_inp (i := 10) rfl⟩
theorem tc_C_send : zt_M yC_send cC_send 3 (some .long) 1 := ⟨tw_369, tw_1, by decide, by decide, by decide +kernel⟩
theorem tv_C_send : Cond.instanceMethod yC_send ∈ lw_tbl ∧ Cond.selects yC_send.cls yC_send yC_send ∈ lw_tbl := ⟨tw_367, tw_368⟩
theorem tc_S_expect : zt_M yS_expect cS_expect 3 none 1 := ⟨tw_373, tw_3, by decide, by decide, by decide +kernel⟩
theorem tv_S_expect : Cond.instanceMethod yS_expect ∈ lw_tbl ∧ Cond.selects yS_expect.cls yS_expect yS_expect ∈ lw_tbl := ⟨tw_371, tw_372⟩
theorem tc_C_receive : zt_M yC_receive cC_receive 3 (some .int) 1 := ⟨tw_380, tw_1, by decide, by decide, by decide +kernel⟩
theorem tv_C_receive : Cond.instanceMethod yC_receive ∈ lw_tbl ∧ Cond.selects yC_receive.cls yC_receive yC_receive ∈ lw_tbl := ⟨tw_378, tw_379⟩
theorem tc_P_isAnswer : zt_M yP_isAnswer cP_isAnswer 2 (some .boolean) 0 := ⟨tw_384, tw_2, by decide, by decide, by decide +kernel⟩
theorem tv_P_isAnswer : Cond.instanceMethod yP_isAnswer ∈ lw_tbl ∧ Cond.selects yP_isAnswer.cls yP_isAnswer yP_isAnswer ∈ lw_tbl := ⟨tw_382, tw_383⟩
theorem tc_P_read : zt_M yP_read cP_read 6 (some .long) 2 := ⟨tw_388, tw_2, by decide, by decide, by decide +kernel⟩
theorem tv_P_read : Cond.instanceMethod yP_read ∈ lw_tbl ∧ Cond.selects yP_read.cls yP_read yP_read ∈ lw_tbl := ⟨tw_386, tw_387⟩
theorem tc_P_stratum : zt_M yP_stratum cP_stratum 1 (some .int) 0 := ⟨tw_393, tw_2, by decide, by decide, by decide +kernel⟩
theorem tv_P_stratum : Cond.instanceMethod yP_stratum ∈ lw_tbl ∧ Cond.selects yP_stratum.cls yP_stratum yP_stratum ∈ lw_tbl := ⟨tw_391, tw_392⟩
theorem tc_S_obey : zt_M yS_obey cS_obey 3 none 1 := ⟨tw_397, tw_3, by decide, by decide, by decide +kernel⟩
theorem tv_S_obey : Cond.instanceMethod yS_obey ∈ lw_tbl ∧ Cond.selects yS_obey.cls yS_obey yS_obey ∈ lw_tbl := ⟨tw_395, tw_396⟩
theorem tc_S_pollLater : zt_M yS_pollLater cS_pollLater 1 none 0 := ⟨tw_404, tw_3, by decide, by decide, by decide +kernel⟩
theorem tv_S_pollLater : Cond.instanceMethod yS_pollLater ∈ lw_tbl ∧ Cond.selects yS_pollLater.cls yS_pollLater yS_pollLater ∈ lw_tbl := ⟨tw_402, tw_403⟩
theorem tc_J_min_7cf5 : zt_M yJ_min_7cf5 cJ_min_7cf5 2 (some .int) 2 := ⟨tw_407, tw_10, by decide, by decide, by decide +kernel⟩
theorem ts_J_min_7cf5 : Cond.static yJ_min_7cf5 ∈ lw_tbl := tw_406
theorem tc_P_isSynchronized : zt_M yP_isSynchronized cP_isSynchronized 1 (some .boolean) 0 := ⟨tw_411, tw_2, by decide, by decide, by decide +kernel⟩
theorem tv_P_isSynchronized : Cond.instanceMethod yP_isSynchronized ∈ lw_tbl ∧ Cond.selects yP_isSynchronized.cls yP_isSynchronized yP_isSynchronized ∈ lw_tbl := ⟨tw_409, tw_410⟩
theorem tc_C_takeTimes : zt_M yC_takeTimes cC_takeTimes 14 (some .int) 1 := ⟨tw_416, tw_1, by decide, by decide, by decide +kernel⟩
theorem tv_C_takeTimes : Cond.instanceMethod yC_takeTimes ∈ lw_tbl ∧ Cond.selects yC_takeTimes.cls yC_takeTimes yC_takeTimes ∈ lw_tbl := ⟨tw_415, zt_inp (i := 11) rfl⟩
theorem tc_C_halfOfSum : zt_M yC_halfOfSum cC_halfOfSum 4 (some .long) 2 := ⟨tw_419, tw_1, by decide, by decide, by decide +kernel⟩
theorem ts_C_halfOfSum : Cond.static yC_halfOfSum ∈ lw_tbl := tw_418
theorem tc_P_rootDelay : zt_M yP_rootDelay cP_rootDelay 1 (some .long) 0 := ⟨tw_426, tw_2, by decide, by decide, by decide +kernel⟩
theorem tv_P_rootDelay : Cond.instanceMethod yP_rootDelay ∈ lw_tbl ∧ Cond.selects yP_rootDelay.cls yP_rootDelay yP_rootDelay ∈ lw_tbl := ⟨tw_424, tw_425⟩
theorem tc_P_rootDispersion : zt_M yP_rootDispersion cP_rootDispersion 1 (some .long) 0 := ⟨tw_431, tw_2, by decide, by decide, by decide +kernel⟩
theorem tv_P_rootDispersion : Cond.instanceMethod yP_rootDispersion ∈ lw_tbl ∧ Cond.selects yP_rootDispersion.cls yP_rootDispersion yP_rootDispersion ∈ lw_tbl := ⟨tw_429, tw_430⟩
theorem tc_S_keepRoot : zt_M yS_keepRoot cS_keepRoot 6 none 3 := ⟨tw_435, tw_3, by decide, by decide, by decide +kernel⟩
theorem tv_S_keepRoot : Cond.instanceMethod yS_keepRoot ∈ lw_tbl ∧ Cond.selects yS_keepRoot.cls yS_keepRoot yS_keepRoot ∈ lw_tbl := ⟨tw_433, tw_434⟩
theorem tc_S_keepSample : zt_M yS_keepSample cS_keepSample 8 none 3 := ⟨tw_439, tw_3, by decide, by decide, by decide +kernel⟩
theorem tv_S_keepSample : Cond.instanceMethod yS_keepSample ∈ lw_tbl ∧ Cond.selects yS_keepSample.cls yS_keepSample yS_keepSample ∈ lw_tbl := ⟨tw_437, tw_438⟩
theorem tc_C_reach : zt_M yC_reach cC_reach 3 (some .int) 1 := ⟨tw_446, tw_1, by decide, by decide, by decide +kernel⟩
theorem tv_C_reach : Cond.instanceMethod yC_reach ∈ lw_tbl ∧ Cond.selects yC_reach.cls yC_reach yC_reach ∈ lw_tbl := ⟨tw_444, tw_445⟩
theorem tc_C_poll : zt_M yC_poll cC_poll 2 (some .int) 1 := ⟨tw_453, tw_1, by decide, by decide, by decide +kernel⟩
theorem tv_C_poll : Cond.instanceMethod yC_poll ∈ lw_tbl ∧ Cond.selects yC_poll.cls yC_poll yC_poll ∈ lw_tbl := ⟨tw_451, tw_452⟩
theorem tc_C_samples : zt_M yC_samples cC_samples 2 (some .int) 1 := ⟨tw_460, tw_1, by decide, by decide, by decide +kernel⟩
theorem tv_C_samples : Cond.instanceMethod yC_samples ∈ lw_tbl ∧ Cond.selects yC_samples.cls yC_samples yC_samples ∈ lw_tbl := ⟨tw_458, tw_459⟩
theorem tc_C_offset : zt_M yC_offset cC_offset 2 (some .long) 1 := ⟨tw_468, tw_1, by decide, by decide, by decide +kernel⟩
theorem tv_C_offset : Cond.instanceMethod yC_offset ∈ lw_tbl ∧ Cond.selects yC_offset.cls yC_offset yC_offset ∈ lw_tbl := ⟨tw_466, tw_467⟩
theorem tc_C_sampledAt : zt_M yC_sampledAt cC_sampledAt 3 (some (.object "StrataClient$Server")) 1 := ⟨tw_472, tw_1, by decide, by decide, by decide +kernel⟩
theorem tv_C_sampledAt : Cond.instanceMethod yC_sampledAt ∈ lw_tbl ∧ Cond.selects yC_sampledAt.cls yC_sampledAt yC_sampledAt ∈ lw_tbl := ⟨tw_471, zt_inp (i := 12) rfl⟩
theorem tc_C_delay : zt_M yC_delay cC_delay 2 (some .long) 1 := ⟨tw_495, tw_1, by decide, by decide, by decide +kernel⟩
theorem tv_C_delay : Cond.instanceMethod yC_delay ∈ lw_tbl ∧ Cond.selects yC_delay.cls yC_delay yC_delay ∈ lw_tbl := ⟨tw_493, tw_494⟩
theorem tc_S_bestDelay : zt_M yS_bestDelay cS_bestDelay 3 (some .long) 1 := ⟨tw_499, tw_3, by decide, by decide, by decide +kernel⟩
theorem tv_S_bestDelay : Cond.instanceMethod yS_bestDelay ∈ lw_tbl ∧ Cond.selects yS_bestDelay.cls yS_bestDelay yS_bestDelay ∈ lw_tbl := ⟨tw_497, tw_498⟩
theorem tc_C_jitter : zt_M yC_jitter cC_jitter 2 (some .long) 1 := ⟨tw_506, tw_1, by decide, by decide, by decide +kernel⟩
theorem tv_C_jitter : Cond.instanceMethod yC_jitter ∈ lw_tbl ∧ Cond.selects yC_jitter.cls yC_jitter yC_jitter ∈ lw_tbl := ⟨tw_504, tw_505⟩
theorem tc_S_jitterAt : zt_M yS_jitterAt cS_jitterAt 3 (some .long) 1 := ⟨tw_510, tw_3, by decide, by decide, by decide +kernel⟩
theorem tv_S_jitterAt : Cond.instanceMethod yS_jitterAt ∈ lw_tbl ∧ Cond.selects yS_jitterAt.cls yS_jitterAt yS_jitterAt ∈ lw_tbl := ⟨tw_508, tw_509⟩
theorem tc_C_distance : zt_M yC_distance cC_distance 2 (some .long) 1 := ⟨tw_517, tw_1, by decide, by decide, by decide +kernel⟩
theorem tv_C_distance : Cond.instanceMethod yC_distance ∈ lw_tbl ∧ Cond.selects yC_distance.cls yC_distance yC_distance ∈ lw_tbl := ⟨tw_515, tw_516⟩
theorem tc_C_low : zt_M yC_low cC_low 1 (some .long) 0 := ⟨tw_525, tw_1, by decide, by decide, by decide +kernel⟩
theorem tv_C_low : Cond.instanceMethod yC_low ∈ lw_tbl ∧ Cond.selects yC_low.cls yC_low yC_low ∈ lw_tbl := ⟨tw_523, tw_524⟩
theorem tc_V_hasMajority : zt_M yV_hasMajority cV_hasMajority 1 (some .boolean) 0 := ⟨tw_529, tw_4, by decide, by decide, by decide +kernel⟩
theorem tv_V_hasMajority : Cond.instanceMethod yV_hasMajority ∈ lw_tbl ∧ Cond.selects yV_hasMajority.cls yV_hasMajority yV_hasMajority ∈ lw_tbl := ⟨tw_527, tw_528⟩
theorem tc_C_high : zt_M yC_high cC_high 1 (some .long) 0 := ⟨tw_536, tw_1, by decide, by decide, by decide +kernel⟩
theorem tv_C_high : Cond.instanceMethod yC_high ∈ lw_tbl ∧ Cond.selects yC_high.cls yC_high yC_high ∈ lw_tbl := ⟨tw_534, tw_535⟩
theorem tc_C_peer : zt_M yC_peer cC_peer 1 (some .int) 0 := ⟨tw_543, tw_1, by decide, by decide, by decide +kernel⟩
theorem tv_C_peer : Cond.instanceMethod yC_peer ∈ lw_tbl ∧ Cond.selects yC_peer.cls yC_peer yC_peer ∈ lw_tbl := ⟨tw_541, tw_542⟩
theorem tc_V_agrees : zt_M yV_agrees cV_agrees 1 (some .boolean) 0 := ⟨tw_547, tw_4, by decide, by decide, by decide +kernel⟩
theorem tv_V_agrees : Cond.instanceMethod yV_agrees ∈ lw_tbl ∧ Cond.selects yV_agrees.cls yV_agrees yV_agrees ∈ lw_tbl := ⟨tw_545, tw_546⟩
theorem tc_V_choosePeer : zt_M yV_choosePeer cV_choosePeer 4 (some .int) 1 := ⟨tw_552, tw_4, by decide, by decide, by decide +kernel⟩
theorem tv_V_choosePeer : Cond.instanceMethod yV_choosePeer ∈ lw_tbl ∧ Cond.selects yV_choosePeer.cls yV_choosePeer yV_choosePeer ∈ lw_tbl := ⟨tw_550, tw_551⟩
theorem tc_V_isBetter : zt_M yV_isBetter cV_isBetter 6 (some .boolean) 3 := ⟨tw_556, tw_4, by decide, by decide, by decide +kernel⟩
theorem tv_V_isBetter : Cond.instanceMethod yV_isBetter ∈ lw_tbl ∧ Cond.selects yV_isBetter.cls yV_isBetter yV_isBetter ∈ lw_tbl := ⟨tw_555, zt_inp (i := 13) rfl⟩
theorem tc_J_max_7cf5 : zt_M yJ_max_7cf5 cJ_max_7cf5 2 (some .int) 2 := ⟨tw_559, tw_10, by decide, by decide, by decide +kernel⟩
theorem ts_J_max_7cf5 : Cond.static yJ_max_7cf5 ∈ lw_tbl := tw_558
theorem tc_C_update : zt_M yC_update cC_update 5 (some .int) 0 := ⟨tw_567, tw_1, by decide, by decide, by decide +kernel⟩
theorem tv_C_update : Cond.instanceMethod yC_update ∈ lw_tbl ∧ Cond.selects yC_update.cls yC_update yC_update ∈ lw_tbl := ⟨tw_565, tw_566⟩
theorem tc_V_combinedOffset : zt_M yV_combinedOffset cV_combinedOffset 4 (some .long) 0 := ⟨tw_571, tw_4, by decide, by decide, by decide +kernel⟩
theorem tv_V_combinedOffset : Cond.instanceMethod yV_combinedOffset ∈ lw_tbl ∧ Cond.selects yV_combinedOffset.cls yV_combinedOffset yV_combinedOffset ∈ lw_tbl := ⟨tw_569, tw_570⟩
theorem tc_C_stepBy : zt_M yC_stepBy cC_stepBy 4 none 1 := ⟨tw_594, tw_1, by decide, by decide, by decide +kernel⟩
theorem tv_C_stepBy : Cond.instanceMethod yC_stepBy ∈ lw_tbl ∧ Cond.selects yC_stepBy.cls yC_stepBy yC_stepBy ∈ lw_tbl := ⟨tw_593, zt_inp (i := 14) rfl⟩
theorem tc_S_forget : zt_M yS_forget cS_forget 1 none 0 := ⟨tw_598, tw_3, by decide, by decide, by decide +kernel⟩
theorem tv_S_forget : Cond.instanceMethod yS_forget ∈ lw_tbl ∧ Cond.selects yS_forget.cls yS_forget yS_forget ∈ lw_tbl := ⟨tw_596, tw_597⟩
theorem tc_C_tunePolls : zt_M yC_tunePolls cC_tunePolls 7 none 1 := ⟨tw_602, tw_1, by decide, by decide, by decide +kernel⟩
theorem tv_C_tunePolls : Cond.instanceMethod yC_tunePolls ∈ lw_tbl ∧ Cond.selects yC_tunePolls.cls yC_tunePolls yC_tunePolls ∈ lw_tbl := ⟨tw_601, zt_inp (i := 15) rfl⟩
theorem tc_S_pollSooner : zt_M yS_pollSooner cS_pollSooner 1 none 0 := ⟨tw_607, tw_3, by decide, by decide, by decide +kernel⟩
theorem tv_S_pollSooner : Cond.instanceMethod yS_pollSooner ∈ lw_tbl ∧ Cond.selects yS_pollSooner.cls yS_pollSooner yS_pollSooner ∈ lw_tbl := ⟨tw_605, tw_606⟩
theorem tc_M_init : zt_M yM_init cM_init 2 none 0 := ⟨tw_615, tw_5, by decide, by decide, by decide +kernel⟩
theorem tc_M_thrown : zt_M yM_thrown cM_thrown 1 (some .int) 0 := ⟨tw_683, tw_5, by decide, by decide, by decide +kernel⟩
theorem tv_M_thrown : Cond.instanceMethod yM_thrown ∈ lw_tbl ∧ Cond.selects yM_thrown.cls yM_thrown yM_thrown ∈ lw_tbl := ⟨tw_681, tw_682⟩
theorem tc_M_run : zt_M yM_run cM_run 7 none 1 := ⟨tw_687, tw_5, by decide, by decide, by decide +kernel⟩
theorem tv_M_run : Cond.instanceMethod yM_run ∈ lw_tbl ∧ Cond.selects yM_run.cls yM_run yM_run ∈ lw_tbl := ⟨tw_685, tw_686⟩
theorem tc_M_local : zt_M yM_local cM_local 1 (some .long) 0 := ⟨tw_693, tw_5, by decide, by decide, by decide +kernel⟩
theorem tv_M_local : Cond.instanceMethod yM_local ∈ lw_tbl ∧ Cond.selects yM_local.cls yM_local yM_local ∈ lw_tbl := ⟨tw_691, tw_692⟩
theorem tc_M_slew : zt_M yM_slew cM_slew 1 (some .long) 0 := ⟨tw_697, tw_5, by decide, by decide, by decide +kernel⟩
theorem tv_M_slew : Cond.instanceMethod yM_slew ∈ lw_tbl ∧ Cond.selects yM_slew.cls yM_slew yM_slew ∈ lw_tbl := ⟨tw_695, tw_696⟩
theorem tc_M_put : zt_M yM_put cM_put 5 none 3 := ⟨tw_701, tw_5, by decide, by decide, by decide +kernel⟩
theorem tv_M_put : Cond.instanceMethod yM_put ∈ lw_tbl ∧ Cond.selects yM_put.cls yM_put yM_put ∈ lw_tbl := ⟨tw_699, tw_700⟩
theorem tc_M_write : zt_M yM_write cM_write 6 none 3 := ⟨tw_705, tw_5, by decide, by decide, by decide +kernel⟩
theorem tv_M_write : Cond.instanceMethod yM_write ∈ lw_tbl ∧ Cond.selects yM_write.cls yM_write yM_write ∈ lw_tbl := ⟨tw_704, zt_inp (i := 16) rfl⟩
theorem tc_M_echo : zt_M yM_echo cM_echo 6 none 3 := ⟨tw_710, tw_5, by decide, by decide, by decide +kernel⟩
theorem tv_M_echo : Cond.instanceMethod yM_echo ∈ lw_tbl ∧ Cond.selects yM_echo.cls yM_echo yM_echo ∈ lw_tbl := ⟨tw_708, tw_709⟩
theorem tc_M_isServer : zt_M yM_isServer cM_isServer 1 (some .boolean) 1 := ⟨tw_713, tw_5, by decide, by decide, by decide +kernel⟩
theorem ts_M_isServer : Cond.static yM_isServer ∈ lw_tbl := tw_712
theorem tc_M_send : zt_M yM_send cM_send 2 (some .long) 1 := ⟨tw_717, tw_5, by decide, by decide, by decide +kernel⟩
theorem tv_M_send : Cond.instanceMethod yM_send ∈ lw_tbl ∧ Cond.selects yM_send.cls yM_send yM_send ∈ lw_tbl := ⟨tw_715, tw_716⟩
theorem tc_M_receive : zt_M yM_receive cM_receive 16 (some .int) 1 := ⟨tw_721, tw_5, by decide, by decide, by decide +kernel⟩
theorem tv_M_receive : Cond.instanceMethod yM_receive ∈ lw_tbl ∧ Cond.selects yM_receive.cls yM_receive yM_receive ∈ lw_tbl := ⟨tw_719, tw_720⟩
theorem tc_M_read : zt_M yM_read cM_read 6 (some .long) 2 := ⟨tw_725, tw_5, by decide, by decide, by decide +kernel⟩
theorem tv_M_read : Cond.instanceMethod yM_read ∈ lw_tbl ∧ Cond.selects yM_read.cls yM_read yM_read ∈ lw_tbl := ⟨tw_724, zt_inp (i := 17) rfl⟩
theorem tc_M_kiss : zt_M yM_kiss cM_kiss 4 (some .int) 1 := ⟨tw_729, tw_5, by decide, by decide, by decide +kernel⟩
theorem tv_M_kiss : Cond.instanceMethod yM_kiss ∈ lw_tbl ∧ Cond.selects yM_kiss.cls yM_kiss yM_kiss ∈ lw_tbl := ⟨tw_728, zt_inp (i := 18) rfl⟩
theorem tc_M_half : zt_M yM_half cM_half 4 (some .long) 2 := ⟨tw_735, tw_5, by decide, by decide, by decide +kernel⟩
theorem ts_M_half : Cond.static yM_half ∈ lw_tbl := tw_734
theorem tc_M_reach : zt_M yM_reach cM_reach 2 (some .int) 1 := ⟨tw_742, tw_5, by decide, by decide, by decide +kernel⟩
theorem tv_M_reach : Cond.instanceMethod yM_reach ∈ lw_tbl ∧ Cond.selects yM_reach.cls yM_reach yM_reach ∈ lw_tbl := ⟨tw_740, tw_741⟩
theorem tc_M_poll : zt_M yM_poll cM_poll 2 (some .int) 1 := ⟨tw_746, tw_5, by decide, by decide, by decide +kernel⟩
theorem tv_M_poll : Cond.instanceMethod yM_poll ∈ lw_tbl ∧ Cond.selects yM_poll.cls yM_poll yM_poll ∈ lw_tbl := ⟨tw_744, tw_745⟩
theorem tc_M_samples : zt_M yM_samples cM_samples 2 (some .int) 1 := ⟨tw_750, tw_5, by decide, by decide, by decide +kernel⟩
theorem tv_M_samples : Cond.instanceMethod yM_samples ∈ lw_tbl ∧ Cond.selects yM_samples.cls yM_samples yM_samples ∈ lw_tbl := ⟨tw_748, tw_749⟩
theorem tc_M_offset : zt_M yM_offset cM_offset 2 (some .long) 1 := ⟨tw_754, tw_5, by decide, by decide, by decide +kernel⟩
theorem tv_M_offset : Cond.instanceMethod yM_offset ∈ lw_tbl ∧ Cond.selects yM_offset.cls yM_offset yM_offset ∈ lw_tbl := ⟨tw_752, tw_753⟩
theorem tc_M_shows : zt_M yM_shows cM_shows 2 (some .boolean) 1 := ⟨tw_758, tw_5, by decide, by decide, by decide +kernel⟩
theorem tv_M_shows : Cond.instanceMethod yM_shows ∈ lw_tbl ∧ Cond.selects yM_shows.cls yM_shows yM_shows ∈ lw_tbl := ⟨tw_757, zt_inp (i := 19) rfl⟩
theorem tc_M_offsetOf : zt_M yM_offsetOf cM_offsetOf 2 (some .long) 1 := ⟨tw_762, tw_5, by decide, by decide, by decide +kernel⟩
theorem tv_M_offsetOf : Cond.instanceMethod yM_offsetOf ∈ lw_tbl ∧ Cond.selects yM_offsetOf.cls yM_offsetOf yM_offsetOf ∈ lw_tbl := ⟨tw_761, zt_inp (i := 20) rfl⟩
theorem tc_M_best : zt_M yM_best cM_best 5 (some .int) 1 := ⟨tw_766, tw_5, by decide, by decide, by decide +kernel⟩
theorem tv_M_best : Cond.instanceMethod yM_best ∈ lw_tbl ∧ Cond.selects yM_best.cls yM_best yM_best ∈ lw_tbl := ⟨tw_765, zt_inp (i := 21) rfl⟩
theorem tc_M_dispersion : zt_M yM_dispersion cM_dispersion 2 (some .long) 1 := ⟨tw_771, tw_5, by decide, by decide, by decide +kernel⟩
theorem tv_M_dispersion : Cond.instanceMethod yM_dispersion ∈ lw_tbl ∧ Cond.selects yM_dispersion.cls yM_dispersion yM_dispersion ∈ lw_tbl := ⟨tw_770, zt_inp (i := 22) rfl⟩
theorem tc_M_delay : zt_M yM_delay cM_delay 2 (some .long) 1 := ⟨tw_775, tw_5, by decide, by decide, by decide +kernel⟩
theorem tv_M_delay : Cond.instanceMethod yM_delay ∈ lw_tbl ∧ Cond.selects yM_delay.cls yM_delay yM_delay ∈ lw_tbl := ⟨tw_773, tw_774⟩
theorem tc_M_jitter : zt_M yM_jitter cM_jitter 2 (some .long) 1 := ⟨tw_779, tw_5, by decide, by decide, by decide +kernel⟩
theorem tv_M_jitter : Cond.instanceMethod yM_jitter ∈ lw_tbl ∧ Cond.selects yM_jitter.cls yM_jitter yM_jitter ∈ lw_tbl := ⟨tw_777, tw_778⟩
theorem tc_M_jitterOf : zt_M yM_jitterOf cM_jitterOf 9 (some .long) 1 := ⟨tw_783, tw_5, by decide, by decide, by decide +kernel⟩
theorem tv_M_jitterOf : Cond.instanceMethod yM_jitterOf ∈ lw_tbl ∧ Cond.selects yM_jitterOf.cls yM_jitterOf yM_jitterOf ∈ lw_tbl := ⟨tw_782, zt_inp (i := 23) rfl⟩
theorem tc_M_size : zt_M yM_size cM_size 2 (some .long) 1 := ⟨tw_786, tw_5, by decide, by decide, by decide +kernel⟩
theorem ts_M_size : Cond.static yM_size ∈ lw_tbl := tw_785
theorem tc_M_distance : zt_M yM_distance cM_distance 2 (some .long) 1 := ⟨tw_790, tw_5, by decide, by decide, by decide +kernel⟩
theorem tv_M_distance : Cond.instanceMethod yM_distance ∈ lw_tbl ∧ Cond.selects yM_distance.cls yM_distance yM_distance ∈ lw_tbl := ⟨tw_788, tw_789⟩
theorem tc_M_distanceOf : zt_M yM_distanceOf cM_distanceOf 3 (some .long) 1 := ⟨tw_794, tw_5, by decide, by decide, by decide +kernel⟩
theorem tv_M_distanceOf : Cond.instanceMethod yM_distanceOf ∈ lw_tbl ∧ Cond.selects yM_distanceOf.cls yM_distanceOf yM_distanceOf ∈ lw_tbl := ⟨tw_793, zt_inp (i := 24) rfl⟩
theorem tc_M_candidates : zt_M yM_candidates cM_candidates 3 (some .int) 0 := ⟨tw_798, tw_5, by decide, by decide, by decide +kernel⟩
theorem tv_M_candidates : Cond.instanceMethod yM_candidates ∈ lw_tbl ∧ Cond.selects yM_candidates.cls yM_candidates yM_candidates ∈ lw_tbl := ⟨tw_796, tw_797⟩
theorem tc_M_isCandidate : zt_M yM_isCandidate cM_isCandidate 2 (some .boolean) 1 := ⟨tw_802, tw_5, by decide, by decide, by decide +kernel⟩
theorem tv_M_isCandidate : Cond.instanceMethod yM_isCandidate ∈ lw_tbl ∧ Cond.selects yM_isCandidate.cls yM_isCandidate yM_isCandidate ∈ lw_tbl := ⟨tw_801, zt_inp (i := 25) rfl⟩
theorem tc_M_low : zt_M yM_low cM_low 1 (some .long) 0 := ⟨tw_807, tw_5, by decide, by decide, by decide +kernel⟩
theorem tv_M_low : Cond.instanceMethod yM_low ∈ lw_tbl ∧ Cond.selects yM_low.cls yM_low yM_low ∈ lw_tbl := ⟨tw_805, tw_806⟩
theorem tc_M_majority : zt_M yM_majority cM_majority 7 (some .boolean) 0 := ⟨tw_811, tw_5, by decide, by decide, by decide +kernel⟩
theorem tv_M_majority : Cond.instanceMethod yM_majority ∈ lw_tbl ∧ Cond.selects yM_majority.cls yM_majority yM_majority ∈ lw_tbl := ⟨tw_810, zt_inp (i := 26) rfl⟩
theorem tc_M_isCommon : zt_M yM_isCommon cM_isCommon 6 (some .boolean) 1 := ⟨tw_815, tw_5, by decide, by decide, by decide +kernel⟩
theorem tv_M_isCommon : Cond.instanceMethod yM_isCommon ∈ lw_tbl ∧ Cond.selects yM_isCommon.cls yM_isCommon yM_isCommon ∈ lw_tbl := ⟨tw_814, zt_inp (i := 27) rfl⟩
theorem tc_M_high : zt_M yM_high cM_high 1 (some .long) 0 := ⟨tw_819, tw_5, by decide, by decide, by decide +kernel⟩
theorem tv_M_high : Cond.instanceMethod yM_high ∈ lw_tbl ∧ Cond.selects yM_high.cls yM_high yM_high ∈ lw_tbl := ⟨tw_817, tw_818⟩
theorem tc_M_survivors : zt_M yM_survivors cM_survivors 3 (some .int) 0 := ⟨tw_823, tw_5, by decide, by decide, by decide +kernel⟩
theorem tv_M_survivors : Cond.instanceMethod yM_survivors ∈ lw_tbl ∧ Cond.selects yM_survivors.cls yM_survivors yM_survivors ∈ lw_tbl := ⟨tw_821, tw_822⟩
theorem tc_M_survive : zt_M yM_survive cM_survive 9 (some .int) 0 := ⟨tw_827, tw_5, by decide, by decide, by decide +kernel⟩
theorem tv_M_survive : Cond.instanceMethod yM_survive ∈ lw_tbl ∧ Cond.selects yM_survive.cls yM_survive yM_survive ∈ lw_tbl := ⟨tw_826, zt_inp (i := 28) rfl⟩
theorem tc_M_spread : zt_M yM_spread cM_spread 5 (some .long) 1 := ⟨tw_832, tw_5, by decide, by decide, by decide +kernel⟩
theorem tv_M_spread : Cond.instanceMethod yM_spread ∈ lw_tbl ∧ Cond.selects yM_spread.cls yM_spread yM_spread ∈ lw_tbl := ⟨tw_831, zt_inp (i := 29) rfl⟩
theorem tc_M_peer : zt_M yM_peer cM_peer 1 (some .int) 0 := ⟨tw_836, tw_5, by decide, by decide, by decide +kernel⟩
theorem tv_M_peer : Cond.instanceMethod yM_peer ∈ lw_tbl ∧ Cond.selects yM_peer.cls yM_peer yM_peer ∈ lw_tbl := ⟨tw_834, tw_835⟩
theorem tc_M_peerOf : zt_M yM_peerOf cM_peerOf 4 (some .int) 0 := ⟨tw_840, tw_5, by decide, by decide, by decide +kernel⟩
theorem tv_M_peerOf : Cond.instanceMethod yM_peerOf ∈ lw_tbl ∧ Cond.selects yM_peerOf.cls yM_peerOf yM_peerOf ∈ lw_tbl := ⟨tw_839, zt_inp (i := 30) rfl⟩
theorem tc_M_update : zt_M yM_update cM_update 4 (some .int) 0 := ⟨tw_844, tw_5, by decide, by decide, by decide +kernel⟩
theorem tv_M_update : Cond.instanceMethod yM_update ∈ lw_tbl ∧ Cond.selects yM_update.cls yM_update yM_update ∈ lw_tbl := ⟨tw_842, tw_843⟩
theorem tc_M_combined : zt_M yM_combined cM_combined 6 (some .long) 1 := ⟨tw_848, tw_5, by decide, by decide, by decide +kernel⟩
theorem tv_M_combined : Cond.instanceMethod yM_combined ∈ lw_tbl ∧ Cond.selects yM_combined.cls yM_combined yM_combined ∈ lw_tbl := ⟨tw_847, zt_inp (i := 31) rfl⟩
theorem tc_M_step : zt_M yM_step cM_step 4 none 1 := ⟨tw_854, tw_5, by decide, by decide, by decide +kernel⟩
theorem tv_M_step : Cond.instanceMethod yM_step ∈ lw_tbl ∧ Cond.selects yM_step.cls yM_step yM_step ∈ lw_tbl := ⟨tw_853, zt_inp (i := 32) rfl⟩
theorem tc_M_slow : zt_M yM_slow cM_slow 5 none 1 := ⟨tw_858, tw_5, by decide, by decide, by decide +kernel⟩
theorem tv_M_slow : Cond.instanceMethod yM_slow ∈ lw_tbl ∧ Cond.selects yM_slow.cls yM_slow yM_slow ∈ lw_tbl := ⟨tw_857, zt_inp (i := 33) rfl⟩
