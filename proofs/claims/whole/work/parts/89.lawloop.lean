/-! The law's loop -/
theorem zl_31 (y : Int32) : ∃ m, m < 32 ∧ y &&& 31 = nI m := by
  refine ⟨(y.toBitVec &&& 31#32).toNat, ?_, ?_⟩
  · rw [BitVec.toNat_and]
    exact Nat.and_lt_two_pow (n := 5) _ (by decide)
  · apply Int32.toBitVec_inj.mp
    show y.toBitVec &&& 31#32 = BitVec.ofNat 32 _
    rw [BitVec.ofNat_toNat, BitVec.setWidth_eq]
set_option maxHeartbeats 4000000 in
set_option maxRecDepth 100000 in
theorem lo_disp {p : Program} {l : Launch} {e : Env} {s : State} {m : MethodId} {below : List Frame} {meth : Method} {c : Code} {b L : Nat} {xs : Nat → Int32} {A : Nat → Prop} {dC : Nat → ClassId} {dI : Nat → Nat → Nat} {cJ cI cB cZ cS : ClassId} {Q : State → Prop} (E : zl_E p s m c b L xs A dC dI cJ cI cB cZ cS) (hlt : l.stackTraces = false) {H : Heap} {locs : List Loc} {cells slots i : Nat} {ls : Array Slot} {c0 q r v a d sv mo ou : Nat} {so sa sb sd ad : Nat → Nat} {den rch pol exg str row pk ins : Nat → Int32} {xp rdl rds offm delm cam vo vd fo : Nat → Int64} {nn : Nat → Nat} {off del arr : Nat → Nat → Int64} {loc slw low high mlow mhigh : Int64} {wst thr cand surv : Int32} (hc : cells + 1 ≤ 634533) (hs : slots + 6 ≤ 7192505) (hi : 6 * i + 6 ≤ L)
    (I : zl_I i rch pol rdl rds nn off del arr offm delm cam row pk loc wst) (hP : va_P (dC, dI) vcl ((zl_CW cJ cB cS c0 q r v a d sv so sa sb sd cand low high surv vo vd den rch pol exg xp nn str rdl rds off del arr loc slw wst row) ++ ((zm_W mo ad cI cJ cZ thr loc slw wst pk den rch pol exg xp str rdl rds nn offm delm cam ins mlow mhigh) ++ zy_O ou cJ fo)) H) (hD : va_D A ((zl_CW cJ cB cS c0 q r v a d sv so sa sb sd cand low high surv vo vd den rch pol exg xp nn str rdl rds off del arr loc slw wst row) ++ ((zm_W mo ad cI cJ cZ thr loc slw wst pk den rch pol exg xp str rdl rds nn offm delm cam ins mlow mhigh) ++ zy_O ou cJ fo))) (hS : va_S A s.heap H locs) (hl : lv_has ls 8 [(0, .ref b), (1, .ref c0), (2, .ref mo), (3, .ref ou), (4, .int (nI (6 * i)))]) (kk : zl_K p l e s m below meth c b A dC dI cJ cI cB cZ cS Q c0 q r v a d sv mo ou so sa sb sd ad i (i + 1) (cells + 1) (slots + 6)) : W p l e room_1 s m #[Value.ref b] below meth c H locs cells slots Q (F0 m 33 ls []) := by
  have E9 := E
  obtain ⟨hx, hb, hml, hown, hT, hN, hC, hZ, hK, hA, hX, hbl, hbA, hL⟩ := E9
  refine lv_aload_n hx hb dW_33 rfl (lv_at hl 0 rfl) ?_
  refine lv_iload hx hb dW_34 (lv_at hl 4 rfl) ?_
  refine zl_sld hx hb hX hbl hbA hS hL (6 * i) rfl (by omega) dW_36 ?_
  refine lv_bipush (v := 31) hx hb dW_37 (by decide) ?_
  refine lv_iand hx hb dW_39 ?_
  obtain ⟨m9, hm, em⟩ := zl_31 (xs (6 * i))
  refine zz_ti (y := nI m9) em ?_
  by_cases h20 : m9 < 20
  · rcases (show m9 = 0 ∨ m9 = 1 ∨ m9 = 2 ∨ m9 = 3 ∨ m9 = 4 ∨ m9 = 5 ∨ m9 = 6 ∨ m9 = 7 ∨ m9 = 8 ∨ m9 = 9 ∨ m9 = 10 ∨ m9 = 11 ∨ m9 = 12 ∨ m9 = 13 ∨ m9 = 14 ∨ m9 = 15 ∨ m9 = 16 ∨ m9 = 17 ∨ m9 = 18 ∨ m9 = 19 by omega) with e9 | e9 | e9 | e9 | e9 | e9 | e9 | e9 | e9 | e9 | e9 | e9 | e9 | e9 | e9 | e9 | e9 | e9 | e9 | e9
    · subst e9
      exact lv_tableIn (off := 96) (tgt := 136) hx hb dW_40 (by decide) (by decide) rfl (by decide) (lo_run E hlt hc hs hi I hP hD hS hl kk)
    · subst e9
      exact lv_tableIn (off := 164) (tgt := 204) hx hb dW_40 (by decide) (by decide) rfl (by decide) (lo_local E hlt hc hs hi I hP hD hS hl kk)
    · subst e9
      exact lv_tableIn (off := 178) (tgt := 218) hx hb dW_40 (by decide) (by decide) rfl (by decide) (lo_slew E hlt hc hs hi I hP hD hS hl kk)
    · subst e9
      exact lv_tableIn (off := 192) (tgt := 232) hx hb dW_40 (by decide) (by decide) rfl (by decide) (lo_put E hlt hc hs hi I hP hD hS hl kk)
    · subst e9
      exact lv_tableIn (off := 284) (tgt := 324) hx hb dW_40 (by decide) (by decide) rfl (by decide) (lo_echo E hlt hc hs hi I hP hD hS hl kk)
    · subst e9
      exact lv_tableIn (off := 408) (tgt := 448) hx hb dW_40 (by decide) (by decide) rfl (by decide) (lo_send E hlt hc hs hi I hP hD hS hl kk)
    · subst e9
      exact lv_tableIn (off := 463) (tgt := 503) hx hb dW_40 (by decide) (by decide) rfl (by decide) (lo_receive E hlt hc hs hi I hP hD hS hl kk)
    · subst e9
      exact lv_tableIn (off := 519) (tgt := 559) hx hb dW_40 (by decide) (by decide) rfl (by decide) (lo_reach E hlt hc hs hi I hP hD hS hl kk)
    · subst e9
      exact lv_tableIn (off := 575) (tgt := 615) hx hb dW_40 (by decide) (by decide) rfl (by decide) (lo_poll E hlt hc hs hi I hP hD hS hl kk)
    · subst e9
      exact lv_tableIn (off := 631) (tgt := 671) hx hb dW_40 (by decide) (by decide) rfl (by decide) (lo_samples E hlt hc hs hi I hP hD hS hl kk)
    · subst e9
      exact lv_tableIn (off := 687) (tgt := 727) hx hb dW_40 (by decide) (by decide) rfl (by decide) (lo_offset E hlt hc hs hi I hP hD hS hl kk)
    · subst e9
      exact lv_tableIn (off := 742) (tgt := 782) hx hb dW_40 (by decide) (by decide) rfl (by decide) (lo_delay E hlt hc hs hi I hP hD hS hl kk)
    · subst e9
      exact lv_tableIn (off := 797) (tgt := 837) hx hb dW_40 (by decide) (by decide) rfl (by decide) (lo_jitter E hlt hc hs hi I hP hD hS hl kk)
    · subst e9
      exact lv_tableIn (off := 852) (tgt := 892) hx hb dW_40 (by decide) (by decide) rfl (by decide) (lo_distance E hlt hc hs hi I hP hD hS hl kk)
    · subst e9
      exact lv_tableIn (off := 907) (tgt := 947) hx hb dW_40 (by decide) (by decide) rfl (by decide) (lo_candidates E hlt hc hs hi I hP hD hS hl kk)
    · subst e9
      exact lv_tableIn (off := 920) (tgt := 960) hx hb dW_40 (by decide) (by decide) rfl (by decide) (lo_low E hlt hc hs hi I hP hD hS hl kk)
    · subst e9
      exact lv_tableIn (off := 963) (tgt := 1003) hx hb dW_40 (by decide) (by decide) rfl (by decide) (lo_high E hlt hc hs hi I hP hD hS hl kk)
    · subst e9
      exact lv_tableIn (off := 1006) (tgt := 1046) hx hb dW_40 (by decide) (by decide) rfl (by decide) (lo_survivors E hlt hc hs hi I hP hD hS hl kk)
    · subst e9
      exact lv_tableIn (off := 1019) (tgt := 1059) hx hb dW_40 (by decide) (by decide) rfl (by decide) (lo_peer E hlt hc hs hi I hP hD hS hl kk)
    · subst e9
      exact lv_tableIn (off := 1063) (tgt := 1103) hx hb dW_40 (by decide) (by decide) rfl (by decide) (lo_update E hlt hc hs hi I hP hD hS hl kk)
  · have h3 : (nI m9).toInt = (m9 : Int) := Int32.toInt_ofNat_of_lt (by omega)
    refine lv_tableOut (tgt := 1147) hx hb dW_40 (Or.inr (by rw [h3]; omega)) (by decide) ?_
    obtain ⟨hn, hpk, hpb, hrc, hsm, hrd, hlo⟩ := I
    exact W.widen (Nat.le_succ _) (Nat.le_add_right _ _) (kk _ _ _ _ _ _ _ _ _ _ _ _ _ _ _ _ _ _ _ _ _ _ _ _ _ _ _ _ _ _ _ _ _ _ ⟨hn, hpk, hpb, hrc, hsm.next, hrd, hlo.next⟩ hP hD hS hl)
theorem lo_head {p : Program} {l : Launch} {e : Env} {s : State} {m : MethodId} {below : List Frame} {meth : Method} {c : Code} {b L : Nat} {xs : Nat → Int32} {A : Nat → Prop} {dC : Nat → ClassId} {dI : Nat → Nat → Nat} {cJ cI cB cZ cS : ClassId} {Q : State → Prop} (E : zl_E p s m c b L xs A dC dI cJ cI cB cZ cS) {H : Heap} {locs : List Loc} {cells slots i c0 mo ou : Nat} {ls : Array Slot} (hS : va_S A s.heap H locs) (hl : lv_has ls 8 [(0, .ref b), (1, .ref c0), (2, .ref mo), (3, .ref ou), (4, .int (nI (6 * i)))]) (h9 : i ≤ 600)
    (kt : L < 6 * i + 6 → W p l e room_1 s m #[Value.ref b] below meth c H locs cells slots Q (F0 m 1153 ls [])) (kf : 6 * i + 6 ≤ L → W p l e room_1 s m #[Value.ref b] below meth c H locs cells slots Q (F0 m 33 ls [])) : W p l e room_1 s m #[Value.ref b] below meth c H locs cells slots Q (F0 m 23 ls []) := by
  obtain ⟨hx, hb, hml, hown, hT, hN, hC, hZ, hK, hA, hX, hbl, hbA, hL⟩ := E
  have h1 : (nI (6 * i)).toInt = ((6 * i : Nat) : Int) := Int32.toInt_ofNat_of_lt (by omega)
  have h2 : (Int32.ofNat L).toInt = (L : Int) := Int32.toInt_ofNat_of_lt (by omega)
  have t6 : (6 : Int32).toInt = 6 := rfl
  have h3 : (Int32.ofNat L - 6).toInt = (L : Int) - 6 := by
    rw [Int32.toInt_sub, h2, t6]
    rw [Int.bmod_eq_of_le] <;> omega
  refine lv_iload hx hb dW_23 (lv_at hl 4 rfl) ?_
  refine lv_aload_n hx hb dW_25 rfl (lv_at hl 0 rfl) ?_
  refine va_slen hx hb hX hbl hbA hS dW_26 ?_
  refine lv_bipush (v := 6) hx hb dW_27 (by decide) ?_
  refine lv_isub hx hb dW_29 ?_
  refine zz_igt (tgt := 1153) hx hb dW_30 (by decide) (fun h => kt ?_) (fun h => kf ?_)
  · rw [Int32.lt_iff_toInt_lt, h1, h3] at h
    omega
  · rw [Int32.lt_iff_toInt_lt, h1, h3] at h
    omega
theorem lo_loop {p : Program} {l : Launch} {e : Env} {s : State} {m : MethodId} {below : List Frame} {meth : Method} {c : Code} {b L : Nat} {xs : Nat → Int32} {A : Nat → Prop} {dC : Nat → ClassId} {dI : Nat → Nat → Nat} {cJ cI cB cZ cS : ClassId} (E : zl_E p s m c b L xs A dC dI cJ cI cB cZ cS) (hlt : l.stackTraces = false) (hr : meth.sig.returnType = ret) (hlocks : meth.locks = false) (hAs : ∀ q, A q → s.heap.size ≤ q) {c0 q r v a d sv mo ou : Nat} {so sa sb sd ad : Nat → Nat} : ∀ (n i : Nat), i + n = L / 6 → ∀ (den rch pol exg str row pk ins : Nat → Int32) (xp rdl rds offm delm cam vo vd fo : Nat → Int64) (nn : Nat → Nat) (off del arr : Nat → Nat → Int64) (loc slw low high mlow mhigh : Int64) (wst thr cand surv : Int32) (H : Heap) (locs : List Loc) (ls : Array Slot) (cells slots : Nat), cells + n ≤ 634533 → slots + 6 * n ≤ 7192505 → zl_I i rch pol rdl rds nn off del arr offm delm cam row pk loc wst → va_P (dC, dI) vcl ((zl_CW cJ cB cS c0 q r v a d sv so sa sb sd cand low high surv vo vd den rch pol exg xp nn str rdl rds off del arr loc slw wst row) ++ ((zm_W mo ad cI cJ cZ thr loc slw wst pk den rch pol exg xp str rdl rds nn offm delm cam ins mlow mhigh) ++ zy_O ou cJ fo)) H → va_D A ((zl_CW cJ cB cS c0 q r v a d sv so sa sb sd cand low high surv vo vd den rch pol exg xp nn str rdl rds off del arr loc slw wst row) ++ ((zm_W mo ad cI cJ cZ thr loc slw wst pk den rch pol exg xp str rdl rds nn offm delm cam ins mlow mhigh) ++ zy_O ou cJ fo)) → va_S A s.heap H locs → lv_has ls 8 [(0, .ref b), (1, .ref c0), (2, .ref mo), (3, .ref ou), (4, .int (nI (6 * i)))] → W p l e room_1 s m #[Value.ref b] below meth c H locs cells slots (lw_Z below #[Value.ref b] s) (F0 m 23 ls []) := by
  have hL := E.2.2.2.2.2.2.2.2.2.2.2.2.2
  have hx := E.1
  have hb := E.2.1
  intro n
  induction n with
  | zero =>
    intro i hn den rch pol exg str row pk ins xp rdl rds offm delm cam vo vd fo nn off del arr loc slw low high mlow mhigh wst thr cand surv H locs ls cells slots hc hs I hP hD hS hl
    refine lo_head E hS hl (by omega) (fun _ => ?_) (fun h => absurd h (by omega))
    refine va_forget (fun q hq => hAs _ (hS.2.2 q hq)) ?_
    refine lv_iconst (v := 1) hx hb dW_1153 (by decide) ?_
    exact W.widen (by omega) (by omega) (lw_ret hx hb hr hlocks dW_1154)
  | succ n ih =>
    intro i hn den rch pol exg str row pk ins xp rdl rds offm delm cam vo vd fo nn off del arr loc slw low high mlow mhigh wst thr cand surv H locs ls cells slots hc hs I hP hD hS hl
    refine lo_head E hS hl (by omega) (fun h => absurd h (by omega)) (fun h => ?_)
    refine lo_disp E hlt (by omega) (by omega) h I hP hD hS hl ?_
    intro den rch pol exg str row pk ins xp rdl rds offm delm cam vo vd fo nn off del arr loc slw low high mlow mhigh wst thr cand surv H locs ls I hP hD hS hl
    refine lv_iinc (k := 4) (v := nI (6 * (i + 1))) (lv' := [(4, .int (nI (6 * (i + 1)))), (0, .ref b), (1, .ref c0), (2, .ref mo), (3, .ref ou)]) hx hb dW_1147 hl rfl (nI_add (6 * i) 6) (by decide) rfl (fun ls hl => ?_)
    refine lv_goto (tgt := 23) hx hb dW_1150 (by decide) ?_
    exact ih (i + 1) (by omega) den rch pol exg str row pk ins xp rdl rds offm delm cam vo vd fo nn off del arr loc slw low high mlow mhigh wst thr cand surv H locs ls (cells + 1) (slots + 6) (by omega) (by omega) I hP hD hS (lv_sub hl [1, 2, 3, 4, 0] rfl)
