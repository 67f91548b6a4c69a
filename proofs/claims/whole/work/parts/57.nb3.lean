/-! Constructors: new objects -/
section ZN
variable {p : Program} {l : Launch} {e : Env} {R : Room} {s : State} {m : MethodId} {args : Array Value} {below : List Frame} {meth : Method} {c : Code} {H H0 : Heap} {locs : List Loc} {cells slots mc ms : Nat} {Q : State → Prop} {A : Nat → Prop}
variable {cc : ByteArray} {pc index q0 a : Nat} {ls : Array Slot} {rest st0 As : List Value} {D : va_G} {cl : List vw_C} {tys : List (ClassId × FieldType)} {ws wc wr W0 : va_W} {fs : List Value} {own : String} {v : Value} {cJ cI cB cZ cS : ClassId}
theorem zz_putFP (hexec : p.tables.exec = Jvm.exec) (hb : c.code = cc) (hT : zt_TB s) (hown : s.vm.findClass own = some m.cls) (hK : va_K D vcl tys s) (hP : va_P D vcl ws H) (hD : va_D A ws) (hS : va_S A H0 H locs) (q0 : Nat) (he : ws[q0]? = some (a, .inr (0, fs))) (k : Nat) (hk : k < 1) (hl : Cond.fieldLink own index (TP k).1 (TP k).2.1 (TP k).2.2.1 ∈ lw_tbl) (hfin : (TP k).2.2.2 = true) (hin : meth.name = "<init>") (hdecl : (TP k).1 = own) {ty : FieldType} (hd : parseFieldDescriptor (TP k).2.2.1 = some ty) (hn : narrow ty v = v) (hfit : fits ty v = true) (hln : k < fs.length) (hdg : decode cc pc = .ok (.putfield index, 3))
    (kk : ∀ (H1 : Heap) (locs1 : List Loc), va_P D vcl (ws.set q0 (a, .inr (0, fs.set k v))) H1 → va_D A (ws.set q0 (a, .inr (0, fs.set k v))) → va_S A H0 H1 locs1 → W p l e R s m args below meth c H1 locs1 cells slots Q (F0 m (pc + 3) ls rest)) : W p l e R s m args below meth c H locs cells slots Q (F0 m pc ls (v :: .ref a :: rest)) :=
  va_putF (C := RP) (T := TP) (N := 1) hexec hb (hT.ws zi_P zg_P) (fun _ h => h) tyP tyP_ok nmP hown hK hP hD hS q0 he rfl k hk (hT.w hl) (fun _ h => h) hfin hin hdecl hd hn hfit hln hdg kk
theorem zn_newP_ (hexec : p.tables.exec = Jvm.exec) (hb : c.code = cc) (hT : zt_TB s) (hown : s.vm.findClass own = some m.cls) (hl : Cond.classLink own index RP ∈ lw_tbl) (hK : va_K D vcl tys s) (hP : va_P D vcl ws H) (hD : va_D A ws) (hS : va_S A H0 H locs) (hA : ∀ q, H0.size ≤ q → A q) (hcells : cells + 1 ≤ R.cells) (hslots : slots + 1 ≤ R.slots) (hdg : decode cc pc = .ok (.new index, 3))
    (kk : ∀ (q : Nat) (H1 : Heap), va_P D vcl (ws ++ [(q, .inr (0, [.null]))]) H1 → va_D A (ws ++ [(q, .inr (0, [.null]))]) → va_S A H0 H1 locs → W p l e R s m args below meth c H1 locs (cells + 1) (slots + 1) Q (F0 m (pc + 3) ls (.ref q :: rest))) : W p l e R s m args below meth c H locs cells slots Q (F0 m pc ls rest) := by
  refine va_new (C := RP) (T := TP) (N := 1) hexec hb (hT.ws zi_P zg_P) (fun _ h => h) tyP tyP_ok hown (hT.w hl) (hT.w tw_25) (hT.w tw_2) hK hP hD hS hA rfl (fun j hj => ?_) hcells hslots hdg kk
  match j, hj with
  | 0, _ => rfl
  | j + 1, hj => exact absurd hj (by omega)
theorem zz_putFS (hexec : p.tables.exec = Jvm.exec) (hb : c.code = cc) (hT : zt_TB s) (hown : s.vm.findClass own = some m.cls) (hK : va_K D vcl tys s) (hP : va_P D vcl ws H) (hD : va_D A ws) (hS : va_S A H0 H locs) (q0 : Nat) (he : ws[q0]? = some (a, .inr (1, fs))) (k : Nat) (hk : k < 12) (hl : Cond.fieldLink own index (TS k).1 (TS k).2.1 (TS k).2.2.1 ∈ lw_tbl) (hfin : (TS k).2.2.2 = true) (hin : meth.name = "<init>") (hdecl : (TS k).1 = own) {ty : FieldType} (hd : parseFieldDescriptor (TS k).2.2.1 = some ty) (hn : narrow ty v = v) (hfit : fits ty v = true) (hln : k < fs.length) (hdg : decode cc pc = .ok (.putfield index, 3))
    (kk : ∀ (H1 : Heap) (locs1 : List Loc), va_P D vcl (ws.set q0 (a, .inr (1, fs.set k v))) H1 → va_D A (ws.set q0 (a, .inr (1, fs.set k v))) → va_S A H0 H1 locs1 → W p l e R s m args below meth c H1 locs1 cells slots Q (F0 m (pc + 3) ls rest)) : W p l e R s m args below meth c H locs cells slots Q (F0 m pc ls (v :: .ref a :: rest)) :=
  va_putF (C := RS) (T := TS) (N := 12) hexec hb (hT.ws zi_S zg_S) (fun _ h => h) tyS tyS_ok nmS hown hK hP hD hS q0 he rfl k hk (hT.w hl) (fun _ h => h) hfin hin hdecl hd hn hfit hln hdg kk
theorem zn_newS_ (hexec : p.tables.exec = Jvm.exec) (hb : c.code = cc) (hT : zt_TB s) (hown : s.vm.findClass own = some m.cls) (hl : Cond.classLink own index RS ∈ lw_tbl) (hK : va_K D vcl tys s) (hP : va_P D vcl ws H) (hD : va_D A ws) (hS : va_S A H0 H locs) (hA : ∀ q, H0.size ≤ q → A q) (hcells : cells + 1 ≤ R.cells) (hslots : slots + 12 ≤ R.slots) (hdg : decode cc pc = .ok (.new index, 3))
    (kk : ∀ (q : Nat) (H1 : Heap), va_P D vcl (ws ++ [(q, .inr (1, [.int 0, .int 0, .int 0, .int 0, .long 0, .int 0, .int 0, .long 0, .long 0, .null, .null, .null]))]) H1 → va_D A (ws ++ [(q, .inr (1, [.int 0, .int 0, .int 0, .int 0, .long 0, .int 0, .int 0, .long 0, .long 0, .null, .null, .null]))]) → va_S A H0 H1 locs → W p l e R s m args below meth c H1 locs (cells + 1) (slots + 12) Q (F0 m (pc + 3) ls (.ref q :: rest))) : W p l e R s m args below meth c H locs cells slots Q (F0 m pc ls rest) := by
  refine va_new (C := RS) (T := TS) (N := 12) hexec hb (hT.ws zi_S zg_S) (fun _ h => h) tyS tyS_ok hown (hT.w hl) (hT.w tw_37) (hT.w tw_3) hK hP hD hS hA rfl (fun j hj => ?_) hcells hslots hdg kk
  match j, hj with
  | 0, _ => rfl
  | 1, _ => rfl
  | 2, _ => rfl
  | 3, _ => rfl
  | 4, _ => rfl
  | 5, _ => rfl
  | 6, _ => rfl
  | 7, _ => rfl
  | 8, _ => rfl
  | 9, _ => rfl
  | 10, _ => rfl
  | 11, _ => rfl
  | j + 12, hj => exact absurd hj (by omega)
theorem zz_putFV (hexec : p.tables.exec = Jvm.exec) (hb : c.code = cc) (hT : zt_TB s) (hown : s.vm.findClass own = some m.cls) (hK : va_K D vcl tys s) (hP : va_P D vcl ws H) (hD : va_D A ws) (hS : va_S A H0 H locs) (q0 : Nat) (he : ws[q0]? = some (a, .inr (2, fs))) (k : Nat) (hk : k < 6) (hl : Cond.fieldLink own index (TV k).1 (TV k).2.1 (TV k).2.2.1 ∈ lw_tbl) (hfin : (TV k).2.2.2 = true) (hin : meth.name = "<init>") (hdecl : (TV k).1 = own) {ty : FieldType} (hd : parseFieldDescriptor (TV k).2.2.1 = some ty) (hn : narrow ty v = v) (hfit : fits ty v = true) (hln : k < fs.length) (hdg : decode cc pc = .ok (.putfield index, 3))
    (kk : ∀ (H1 : Heap) (locs1 : List Loc), va_P D vcl (ws.set q0 (a, .inr (2, fs.set k v))) H1 → va_D A (ws.set q0 (a, .inr (2, fs.set k v))) → va_S A H0 H1 locs1 → W p l e R s m args below meth c H1 locs1 cells slots Q (F0 m (pc + 3) ls rest)) : W p l e R s m args below meth c H locs cells slots Q (F0 m pc ls (v :: .ref a :: rest)) :=
  va_putF (C := RV) (T := TV) (N := 6) hexec hb (hT.ws zi_V zg_V) (fun _ h => h) tyV tyV_ok nmV hown hK hP hD hS q0 he rfl k hk (hT.w hl) (fun _ h => h) hfin hin hdecl hd hn hfit hln hdg kk
theorem zn_newV_ (hexec : p.tables.exec = Jvm.exec) (hb : c.code = cc) (hT : zt_TB s) (hown : s.vm.findClass own = some m.cls) (hl : Cond.classLink own index RV ∈ lw_tbl) (hK : va_K D vcl tys s) (hP : va_P D vcl ws H) (hD : va_D A ws) (hS : va_S A H0 H locs) (hA : ∀ q, H0.size ≤ q → A q) (hcells : cells + 1 ≤ R.cells) (hslots : slots + 6 ≤ R.slots) (hdg : decode cc pc = .ok (.new index, 3))
    (kk : ∀ (q : Nat) (H1 : Heap), va_P D vcl (ws ++ [(q, .inr (2, [.int 0, .long 0, .long 0, .int 0, .null, .null]))]) H1 → va_D A (ws ++ [(q, .inr (2, [.int 0, .long 0, .long 0, .int 0, .null, .null]))]) → va_S A H0 H1 locs → W p l e R s m args below meth c H1 locs (cells + 1) (slots + 6) Q (F0 m (pc + 3) ls (.ref q :: rest))) : W p l e R s m args below meth c H locs cells slots Q (F0 m pc ls rest) := by
  refine va_new (C := RV) (T := TV) (N := 6) hexec hb (hT.ws zi_V zg_V) (fun _ h => h) tyV tyV_ok hown (hT.w hl) (hT.w tw_91) (hT.w tw_4) hK hP hD hS hA rfl (fun j hj => ?_) hcells hslots hdg kk
  match j, hj with
  | 0, _ => rfl
  | 1, _ => rfl
  | 2, _ => rfl
  | 3, _ => rfl
  | 4, _ => rfl
  | 5, _ => rfl
  | j + 6, hj => exact absurd hj (by omega)
theorem zz_putFC (hexec : p.tables.exec = Jvm.exec) (hb : c.code = cc) (hT : zt_TB s) (hown : s.vm.findClass own = some m.cls) (hK : va_K D vcl tys s) (hP : va_P D vcl ws H) (hD : va_D A ws) (hS : va_S A H0 H locs) (q0 : Nat) (he : ws[q0]? = some (a, .inr (3, fs))) (k : Nat) (hk : k < 6) (hl : Cond.fieldLink own index (TC k).1 (TC k).2.1 (TC k).2.2.1 ∈ lw_tbl) (hfin : (TC k).2.2.2 = true) (hin : meth.name = "<init>") (hdecl : (TC k).1 = own) {ty : FieldType} (hd : parseFieldDescriptor (TC k).2.2.1 = some ty) (hn : narrow ty v = v) (hfit : fits ty v = true) (hln : k < fs.length) (hdg : decode cc pc = .ok (.putfield index, 3))
    (kk : ∀ (H1 : Heap) (locs1 : List Loc), va_P D vcl (ws.set q0 (a, .inr (3, fs.set k v))) H1 → va_D A (ws.set q0 (a, .inr (3, fs.set k v))) → va_S A H0 H1 locs1 → W p l e R s m args below meth c H1 locs1 cells slots Q (F0 m (pc + 3) ls rest)) : W p l e R s m args below meth c H locs cells slots Q (F0 m pc ls (v :: .ref a :: rest)) :=
  va_putF (C := RC) (T := TC) (N := 6) hexec hb (hT.ws zi_C zg_C) (fun _ h => h) tyC tyC_ok nmC hown hK hP hD hS q0 he rfl k hk (hT.w hl) (fun _ h => h) hfin hin hdecl hd hn hfit hln hdg kk
theorem zn_newC_ (hexec : p.tables.exec = Jvm.exec) (hb : c.code = cc) (hT : zt_TB s) (hown : s.vm.findClass own = some m.cls) (hl : Cond.classLink own index RC ∈ lw_tbl) (hK : va_K D vcl tys s) (hP : va_P D vcl ws H) (hD : va_D A ws) (hS : va_S A H0 H locs) (hA : ∀ q, H0.size ≤ q → A q) (hcells : cells + 1 ≤ R.cells) (hslots : slots + 6 ≤ R.slots) (hdg : decode cc pc = .ok (.new index, 3))
    (kk : ∀ (q : Nat) (H1 : Heap), va_P D vcl (ws ++ [(q, .inr (3, [.null, .null, .null, .long 0, .long 0, .int 0]))]) H1 → va_D A (ws ++ [(q, .inr (3, [.null, .null, .null, .long 0, .long 0, .int 0]))]) → va_S A H0 H1 locs → W p l e R s m args below meth c H1 locs (cells + 1) (slots + 6) Q (F0 m (pc + 3) ls (.ref q :: rest))) : W p l e R s m args below meth c H locs cells slots Q (F0 m pc ls rest) := by
  refine va_new (C := RC) (T := TC) (N := 6) hexec hb (hT.ws zi_C zg_C) (fun _ h => h) tyC tyC_ok hown (hT.w hl) (hT.w tw_17) (hT.w tw_1) hK hP hD hS hA rfl (fun j hj => ?_) hcells hslots hdg kk
  match j, hj with
  | 0, _ => rfl
  | 1, _ => rfl
  | 2, _ => rfl
  | 3, _ => rfl
  | 4, _ => rfl
  | 5, _ => rfl
  | j + 6, hj => exact absurd hj (by omega)
theorem zz_putFM (hexec : p.tables.exec = Jvm.exec) (hb : c.code = cc) (hT : zt_TB s) (hown : s.vm.findClass own = some m.cls) (hK : va_K D vcl tys s) (hP : va_P D vcl ws H) (hD : va_D A ws) (hS : va_S A H0 H locs) (q0 : Nat) (he : ws[q0]? = some (a, .inr (4, fs))) (k : Nat) (hk : k < 20) (hl : Cond.fieldLink own index (TM k).1 (TM k).2.1 (TM k).2.2.1 ∈ lw_tbl) (hfin : (TM k).2.2.2 = true) (hin : meth.name = "<init>") (hdecl : (TM k).1 = own) {ty : FieldType} (hd : parseFieldDescriptor (TM k).2.2.1 = some ty) (hn : narrow ty v = v) (hfit : fits ty v = true) (hln : k < fs.length) (hdg : decode cc pc = .ok (.putfield index, 3))
    (kk : ∀ (H1 : Heap) (locs1 : List Loc), va_P D vcl (ws.set q0 (a, .inr (4, fs.set k v))) H1 → va_D A (ws.set q0 (a, .inr (4, fs.set k v))) → va_S A H0 H1 locs1 → W p l e R s m args below meth c H1 locs1 cells slots Q (F0 m (pc + 3) ls rest)) : W p l e R s m args below meth c H locs cells slots Q (F0 m pc ls (v :: .ref a :: rest)) :=
  va_putF (C := RM) (T := TM) (N := 20) hexec hb (hT.ws zi_M zg_M) (fun _ h => h) tyM tyM_ok nmM hown hK hP hD hS q0 he rfl k hk (hT.w hl) (fun _ h => h) hfin hin hdecl hd hn hfit hln hdg kk
theorem zn_newM_ (hexec : p.tables.exec = Jvm.exec) (hb : c.code = cc) (hT : zt_TB s) (hown : s.vm.findClass own = some m.cls) (hl : Cond.classLink own index RM ∈ lw_tbl) (hK : va_K D vcl tys s) (hP : va_P D vcl ws H) (hD : va_D A ws) (hS : va_S A H0 H locs) (hA : ∀ q, H0.size ≤ q → A q) (hcells : cells + 1 ≤ R.cells) (hslots : slots + 20 ≤ R.slots) (hdg : decode cc pc = .ok (.new index, 3))
    (kk : ∀ (q : Nat) (H1 : Heap), va_P D vcl (ws ++ [(q, .inr (4, [.int 0, .long 0, .long 0, .int 0, .null, .null, .null, .null, .null, .null, .null, .null, .null, .null, .null, .null, .null, .null, .long 0, .long 0]))]) H1 → va_D A (ws ++ [(q, .inr (4, [.int 0, .long 0, .long 0, .int 0, .null, .null, .null, .null, .null, .null, .null, .null, .null, .null, .null, .null, .null, .null, .long 0, .long 0]))]) → va_S A H0 H1 locs → W p l e R s m args below meth c H1 locs (cells + 1) (slots + 20) Q (F0 m (pc + 3) ls (.ref q :: rest))) : W p l e R s m args below meth c H locs cells slots Q (F0 m pc ls rest) := by
  refine va_new (C := RM) (T := TM) (N := 20) hexec hb (hT.ws zi_M zg_M) (fun _ h => h) tyM tyM_ok hown (hT.w hl) (hT.w tw_612) (hT.w tw_5) hK hP hD hS hA rfl (fun j hj => ?_) hcells hslots hdg kk
  match j, hj with
  | 0, _ => rfl
  | 1, _ => rfl
  | 2, _ => rfl
  | 3, _ => rfl
  | 4, _ => rfl
  | 5, _ => rfl
  | 6, _ => rfl
  | 7, _ => rfl
  | 8, _ => rfl
  | 9, _ => rfl
  | 10, _ => rfl
  | 11, _ => rfl
  | 12, _ => rfl
  | 13, _ => rfl
  | 14, _ => rfl
  | 15, _ => rfl
  | 16, _ => rfl
  | 17, _ => rfl
  | 18, _ => rfl
  | 19, _ => rfl
  | j + 20, hj => exact absurd hj (by omega)
end ZN
