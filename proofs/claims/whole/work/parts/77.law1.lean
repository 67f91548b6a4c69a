/-! The law's operations: walks -/
set_option maxHeartbeats 4000000 in
set_option maxRecDepth 100000 in
theorem lw_run {p : Program} {l : Launch} {e : Env} {s : State} {m : MethodId} {below : List Frame} {meth : Method} {c : Code} {b L : Nat} {xs : Nat → Int32} {A : Nat → Prop} {dC : Nat → ClassId} {dI : Nat → Nat → Nat} {cJ cI cB cZ cS : ClassId} {Q : State → Prop} (E : zl_E p s m c b L xs A dC dI cJ cI cB cZ cS)
    {H : Heap} {locs : List Loc} {cells slots i c0 mo ou fH lH fM lM : Nat} {ls : Array Slot} {CW CW1 Wc W1c Wcr M M1 : va_W} {fo fo1 : Nat → Int64} {k : Int32} {fs fs1 : List Value} (hc : cells + 1 ≤ 634533) (hs : slots + 6 ≤ 7192505) (hi : 6 * i + 6 ≤ L)
    (hp : CW.Perm (Wc ++ Wcr)) (hq : (W1c ++ Wcr).Perm CW1) (hH : ∀ sz : Nat, vx_Met l yL_run [Cond.codeWith yL_run cL_run 4 (some .int) hhL_run] { frames := fH, cells := 1, slots := 6, locals := lH } (va_Pc [.ref c0, .long (zl_J (xs (6 * i + 1)) (xs (6 * i + 2)))] (zy_B (dC, dI) vcl (zz_T cJ cI cB cZ cS) (Wc ++ zy_O ou cJ fo) sz)) (zq_Q (dC, dI) vcl (some (.int k)) (Wc ++ zy_O ou cJ fo) (W1c ++ zy_O ou cJ fo1) sz) zy_X 1 6 (va_A (Wc ++ zy_O ou cJ fo) sz)) (hRH : fH + 1 ≤ 12 ∧ 8 + (4 + 11) + lH ≤ 440)
    (hM : ∀ sz : Nat, Met l yM_run [Cond.code yM_run cM_run 7 none] { frames := fM, cells := 0, slots := 0, locals := lM } (va_Pc [.ref mo, .long (zl_J (xs (6 * i + 1)) (xs (6 * i + 2)))] (zq_B (dC, dI) vcl (zz_T cJ cI cB cZ cS) M sz)) (zq_Q (dC, dI) vcl none M M1 sz) 0 0 (va_A M sz)) (hRM : fM + 1 ≤ 12 ∧ 8 + (7 + 11) + lM ≤ 440) (hm0 : M[0]? = some (mo, .inr (4, fs))) (hm1 : M1[0]? = some (mo, .inr (4, fs1))) (hTh : Met l yM_thrown [Cond.code yM_thrown cM_thrown 1 (some .int)] { frames := 0, cells := 0, slots := 0, locals := 0 } (va_Pc [.ref mo] (zz_B (dC, dI) vcl (zz_T cJ cI cB cZ cS) M1)) (zz_Q (.int k)) 0 0 (fun _ => False))
    (hP : va_P (dC, dI) vcl (CW ++ (M ++ zy_O ou cJ fo)) H) (hD : va_D A (CW ++ (M ++ zy_O ou cJ fo))) (hS : va_S A s.heap H locs) (hl : lv_has ls 8 [(0, .ref b), (1, .ref c0), (2, .ref mo), (3, .ref ou), (4, .int (nI (6 * i)))])
    (kk : ∀ (H : Heap) (locs : List Loc) (ls : Array Slot), va_P (dC, dI) vcl (CW1 ++ (M1 ++ zy_O ou cJ fo1)) H → va_D A (CW1 ++ (M1 ++ zy_O ou cJ fo1)) → va_S A s.heap H locs → lv_has ls 8 [(0, .ref b), (1, .ref c0), (2, .ref mo), (3, .ref ou), (4, .int (nI (6 * i)))] → W p l e room_1 s m #[Value.ref b] below meth c H locs (cells + 1) (slots + 6) Q (F0 m 1147 ls [])) : W p l e room_1 s m #[Value.ref b] below meth c H locs cells slots Q (F0 m 136 ls []) := by
  obtain ⟨hx, hb, hml, hown, hT, hN, hC, hZ, hK, hA, hX, hbl, hbA, hL⟩ := E
  have hcs : cells + 1 ≤ room_1.cells ∧ slots + 6 ≤ room_1.slots := ⟨hc, hs⟩
  have hcs0 : (cells + 1) + 0 ≤ room_1.cells ∧ (slots + 6) + 0 ≤ room_1.slots := ⟨hc, hs⟩
  refine lv_aload_n hx hb dW_136 rfl (lv_at hl 1 rfl) ?_
  refine lv_aload_n hx hb dW_137 rfl (lv_at hl 0 rfl) ?_
  refine lv_iload hx hb dW_138 (lv_at hl 4 rfl) ?_
  refine lv_iconst (v := 1) hx hb dW_140 (by decide) ?_
  refine lv_iadd hx hb dW_141 ?_
  refine zl_sld hx hb hX hbl hbA hS hL (6 * i + 1) (nI_add _ 1) (by omega) dW_142 ?_
  refine lv_i2l (v := Int32.toInt64 (xs (6 * i + 1))) hx hb dW_143 rfl ?_
  refine lv_bipush (v := 32) hx hb dW_144 (by decide) ?_
  refine lv_lshl (v := (Int32.toInt64 (xs (6 * i + 1))) <<< (Int32.toInt64 32 &&& 63)) hx hb dW_146 rfl ?_
  refine lv_aload_n hx hb dW_147 rfl (lv_at hl 0 rfl) ?_
  refine lv_iload hx hb dW_148 (lv_at hl 4 rfl) ?_
  refine lv_iconst (v := 2) hx hb dW_150 (by decide) ?_
  refine lv_iadd hx hb dW_151 ?_
  refine zl_sld hx hb hX hbl hbA hS hL (6 * i + 2) (nI_add _ 2) (by omega) dW_152 ?_
  refine lv_i2l (v := Int32.toInt64 (xs (6 * i + 2))) hx hb dW_153 rfl ?_
  refine lv_ldc2 (own := RL) (v := 4294967295) hx hb hown (hT.w tw_860) dW_154 ?_
  refine lv_land hx hb dW_157 ?_
  refine lv_lor hx hb dW_158 ?_
  refine zz_tl (y := zl_J (xs (6 * i + 1)) (xs (6 * i + 2))) rfl ?_
  refine zl_call (zl_p1 hp) (zl_p2 hq) (zy_run (vx_runSX (Ts := []) (As := [.ref c0, .long (zl_J (xs (6 * i + 1)) (xs (6 * i + 2)))]) (own := RL) ⟨hx, hb, hml, hown, fun _ h => nomatch h⟩ (hH H.size) (zt_ch hT th_L_run tw_231 hRH) (zy_preS hT (zq_Pl (zq_Pp (zl_p1 hp) hP)) hK (zq_Dl (zq_Dp (zl_p1 hp) hD)) hN hC hZ hS hA) rfl rfl hl.1 rfl (lv_room (Nat.le_of_ble_eq_true rfl)) dW_159 hcs)) hP hD hS hA (fun H locs hP hD hS => ?_)
  refine W.eq (g2 := F0 m 162 ls [.int k]) rfl ?_
  refine lv_istore (lv' := [(5, .int k), (0, .ref b), (1, .ref c0), (2, .ref mo), (3, .ref ou), (4, .int (nI (6 * i)))]) hx hb dW_162 hl (by decide) rfl (fun ls hl => ?_)
  refine lv_aload_n hx hb dW_164 rfl (lv_at hl 3 rfl) ?_
  refine lv_aload_n hx hb dW_165 rfl (lv_at hl 1 rfl) ?_
  refine lv_iload hx hb dW_166 (lv_at hl 5 rfl) ?_
  refine lv_iconst (v := 1) hx hb dW_168 (by decide) ?_
  refine lv_iadd hx hb dW_169 ?_
  refine zl_sld hx hb hX hbl hbA hS hL (6 * i + 1) (nI_add _ 1) (by omega) dW_170 ?_
  refine lv_i2l (v := Int32.toInt64 (xs (6 * i + 1))) hx hb dW_171 rfl ?_
  refine lv_bipush (v := 32) hx hb dW_172 (by decide) ?_
  refine lv_lshl (v := (Int32.toInt64 (xs (6 * i + 1))) <<< (Int32.toInt64 32 &&& 63)) hx hb dW_174 rfl ?_
  refine lv_aload_n hx hb dW_175 rfl (lv_at hl 1 rfl) ?_
  refine lv_iload hx hb dW_176 (lv_at hl 5 rfl) ?_
  refine lv_iconst (v := 2) hx hb dW_178 (by decide) ?_
  refine lv_iadd hx hb dW_179 ?_
  refine zl_sld hx hb hX hbl hbA hS hL (6 * i + 2) (nI_add _ 2) (by omega) dW_180 ?_
  refine lv_i2l (v := Int32.toInt64 (xs (6 * i + 2))) hx hb dW_181 rfl ?_
  refine lv_ldc2 (own := RL) (v := 4294967295) hx hb hown (hT.w tw_860) dW_182 ?_
  refine lv_land hx hb dW_185 ?_
  refine lv_lor hx hb dW_186 ?_
  refine zz_tl (y := zl_J (xs (6 * i + 1)) (xs (6 * i + 2))) rfl ?_
  refine zq_callP zl_pm zl_pm.symm (va_runV (Ts := []) (As := [.long (zl_J (xs (6 * i + 1)) (xs (6 * i + 2)))]) (own := RL) ⟨hx, hb, hml, hown, fun _ h => nomatch h⟩ (hM H.size) (zt_cv hT tc_M_run tv_M_run tw_684 hRM) (zq_preV (q0 := 0) hT (zq_Pl (zq_Pp zl_pm hP)) hK (zq_Dl (zq_Dp zl_pm hD)) rfl hm0) rfl rfl hl.1 rfl (lv_room (Nat.le_of_ble_eq_true rfl)) dW_187 hcs0) hP hD hS hA (fun H locs hP hD hS => ?_)
  refine W.eq (g2 := F0 m 190 ls []) rfl ?_
  refine lv_aload_n hx hb dW_190 rfl (lv_at hl 3 rfl) ?_
  refine zz_call (va_runV (Ts := []) (As := []) (own := RL) ⟨hx, hb, hml, hown, fun _ h => nomatch h⟩ hTh (zt_cv hT tc_M_thrown tv_M_thrown tw_680 ⟨Nat.le_of_ble_eq_true rfl, Nat.le_of_ble_eq_true rfl⟩) (zz_preV (q0 := 0) hT (zq_Pl (zq_Pr hP)) hK rfl hm1) rfl rfl hl.1 rfl (lv_room (Nat.le_of_ble_eq_true rfl)) dW_191 hcs0) ?_
  refine lv_iload hx hb dW_194 (lv_at hl 0 rfl) ?_
  refine zz_ieq (tgt := 201) hx hb dW_196 (by decide) (fun h21 => ?_) (fun h21 => ?_)
  · refine lv_goto (tgt := 1147) hx hb dW_201 (by decide) ?_
    exact kk _ _ _ hP hD hS (lv_sub hl [1, 2, 3, 4, 5] rfl)
  · exact absurd rfl h21
set_option maxHeartbeats 4000000 in
set_option maxRecDepth 100000 in
theorem lw_put {p : Program} {l : Launch} {e : Env} {s : State} {m : MethodId} {below : List Frame} {meth : Method} {c : Code} {b L : Nat} {xs : Nat → Int32} {A : Nat → Prop} {dC : Nat → ClassId} {dI : Nat → Nat → Nat} {cJ cI cB cZ cS : ClassId} {Q : State → Prop} (E : zl_E p s m c b L xs A dC dI cJ cI cB cZ cS)
    {H : Heap} {locs : List Loc} {cells slots i c0 mo ou fH lH fM lM : Nat} {ls : Array Slot} {CW CW1 Wc W1c Wcr M M1 : va_W} {fo fo1 : Nat → Int64} {k : Int32} {fs fs1 : List Value} (hc : cells + 1 ≤ 634533) (hs : slots + 6 ≤ 7192505) (hi : 6 * i + 6 ≤ L) {x1 : Int32} (h1 : xs (6 * i + 1) = x1) {x4 : Int32} (h4 : xs (6 * i + 4) = x4)
    (hp : CW.Perm (Wc ++ Wcr)) (hq : (W1c ++ Wcr).Perm CW1) (hH : ∀ sz : Nat, vx_Met l yL_put [Cond.codeWith yL_put cL_put 6 (some .int) hhL_put] { frames := fH, cells := 1, slots := 6, locals := lH } (va_Pc [.ref c0, .int x1, .long (zl_J (xs (6 * i + 2)) (xs (6 * i + 3))), .int x4] (zy_B (dC, dI) vcl (zz_T cJ cI cB cZ cS) (Wc ++ zy_O ou cJ fo) sz)) (zq_Q (dC, dI) vcl (some (.int k)) (Wc ++ zy_O ou cJ fo) (W1c ++ zy_O ou cJ fo1) sz) zy_X 1 6 (va_A (Wc ++ zy_O ou cJ fo) sz)) (hRH : fH + 1 ≤ 12 ∧ 8 + (6 + 11) + lH ≤ 440)
    (hM : ∀ sz : Nat, Met l yM_put [Cond.code yM_put cM_put 5 none] { frames := fM, cells := 0, slots := 0, locals := lM } (va_Pc [.ref mo, .int x1, .long (zl_J (xs (6 * i + 2)) (xs (6 * i + 3))), .int x4] (zq_B (dC, dI) vcl (zz_T cJ cI cB cZ cS) M sz)) (zq_Q (dC, dI) vcl none M M1 sz) 0 0 (va_A M sz)) (hRM : fM + 1 ≤ 12 ∧ 8 + (5 + 11) + lM ≤ 440) (hm0 : M[0]? = some (mo, .inr (4, fs))) (hm1 : M1[0]? = some (mo, .inr (4, fs1))) (hTh : Met l yM_thrown [Cond.code yM_thrown cM_thrown 1 (some .int)] { frames := 0, cells := 0, slots := 0, locals := 0 } (va_Pc [.ref mo] (zz_B (dC, dI) vcl (zz_T cJ cI cB cZ cS) M1)) (zz_Q (.int k)) 0 0 (fun _ => False))
    (hP : va_P (dC, dI) vcl (CW ++ (M ++ zy_O ou cJ fo)) H) (hD : va_D A (CW ++ (M ++ zy_O ou cJ fo))) (hS : va_S A s.heap H locs) (hl : lv_has ls 8 [(0, .ref b), (1, .ref c0), (2, .ref mo), (3, .ref ou), (4, .int (nI (6 * i)))])
    (kk : ∀ (H : Heap) (locs : List Loc) (ls : Array Slot), va_P (dC, dI) vcl (CW1 ++ (M1 ++ zy_O ou cJ fo1)) H → va_D A (CW1 ++ (M1 ++ zy_O ou cJ fo1)) → va_S A s.heap H locs → lv_has ls 8 [(0, .ref b), (1, .ref c0), (2, .ref mo), (3, .ref ou), (4, .int (nI (6 * i)))] → W p l e room_1 s m #[Value.ref b] below meth c H locs (cells + 1) (slots + 6) Q (F0 m 1147 ls [])) : W p l e room_1 s m #[Value.ref b] below meth c H locs cells slots Q (F0 m 232 ls []) := by
  obtain ⟨hx, hb, hml, hown, hT, hN, hC, hZ, hK, hA, hX, hbl, hbA, hL⟩ := E
  have hcs : cells + 1 ≤ room_1.cells ∧ slots + 6 ≤ room_1.slots := ⟨hc, hs⟩
  have hcs0 : (cells + 1) + 0 ≤ room_1.cells ∧ (slots + 6) + 0 ≤ room_1.slots := ⟨hc, hs⟩
  refine lv_aload_n hx hb dW_232 rfl (lv_at hl 1 rfl) ?_
  refine lv_aload_n hx hb dW_233 rfl (lv_at hl 0 rfl) ?_
  refine lv_iload hx hb dW_234 (lv_at hl 4 rfl) ?_
  refine lv_iconst (v := 1) hx hb dW_236 (by decide) ?_
  refine lv_iadd hx hb dW_237 ?_
  refine zl_sld hx hb hX hbl hbA hS hL (6 * i + 1) (nI_add _ 1) (by omega) dW_238 ?_
  refine zz_ti (y := x1) h1 ?_
  refine lv_aload_n hx hb dW_239 rfl (lv_at hl 0 rfl) ?_
  refine lv_iload hx hb dW_240 (lv_at hl 4 rfl) ?_
  refine lv_iconst (v := 2) hx hb dW_242 (by decide) ?_
  refine lv_iadd hx hb dW_243 ?_
  refine zl_sld hx hb hX hbl hbA hS hL (6 * i + 2) (nI_add _ 2) (by omega) dW_244 ?_
  refine lv_i2l (v := Int32.toInt64 (xs (6 * i + 2))) hx hb dW_245 rfl ?_
  refine lv_bipush (v := 32) hx hb dW_246 (by decide) ?_
  refine lv_lshl (v := (Int32.toInt64 (xs (6 * i + 2))) <<< (Int32.toInt64 32 &&& 63)) hx hb dW_248 rfl ?_
  refine lv_aload_n hx hb dW_249 rfl (lv_at hl 0 rfl) ?_
  refine lv_iload hx hb dW_250 (lv_at hl 4 rfl) ?_
  refine lv_iconst (v := 3) hx hb dW_252 (by decide) ?_
  refine lv_iadd hx hb dW_253 ?_
  refine zl_sld hx hb hX hbl hbA hS hL (6 * i + 3) (nI_add _ 3) (by omega) dW_254 ?_
  refine lv_i2l (v := Int32.toInt64 (xs (6 * i + 3))) hx hb dW_255 rfl ?_
  refine lv_ldc2 (own := RL) (v := 4294967295) hx hb hown (hT.w tw_860) dW_256 ?_
  refine lv_land hx hb dW_259 ?_
  refine lv_lor hx hb dW_260 ?_
  refine zz_tl (y := zl_J (xs (6 * i + 2)) (xs (6 * i + 3))) rfl ?_
  refine lv_aload_n hx hb dW_261 rfl (lv_at hl 0 rfl) ?_
  refine lv_iload hx hb dW_262 (lv_at hl 4 rfl) ?_
  refine lv_iconst (v := 4) hx hb dW_264 (by decide) ?_
  refine lv_iadd hx hb dW_265 ?_
  refine zl_sld hx hb hX hbl hbA hS hL (6 * i + 4) (nI_add _ 4) (by omega) dW_266 ?_
  refine zz_ti (y := x4) h4 ?_
  refine zl_call (zl_p1 hp) (zl_p2 hq) (zy_run (vx_runSX (Ts := []) (As := [.ref c0, .int x1, .long (zl_J (xs (6 * i + 2)) (xs (6 * i + 3))), .int x4]) (own := RL) ⟨hx, hb, hml, hown, fun _ h => nomatch h⟩ (hH H.size) (zt_ch hT th_L_put tw_308 hRH) (zy_preS hT (zq_Pl (zq_Pp (zl_p1 hp) hP)) hK (zq_Dl (zq_Dp (zl_p1 hp) hD)) hN hC hZ hS hA) rfl rfl hl.1 rfl (lv_room (Nat.le_of_ble_eq_true rfl)) dW_267 hcs)) hP hD hS hA (fun H locs hP hD hS => ?_)
  refine W.eq (g2 := F0 m 270 ls [.int k]) rfl ?_
  refine lv_istore (lv' := [(5, .int k), (0, .ref b), (1, .ref c0), (2, .ref mo), (3, .ref ou), (4, .int (nI (6 * i)))]) hx hb dW_270 hl (by decide) rfl (fun ls hl => ?_)
  refine lv_aload_n hx hb dW_272 rfl (lv_at hl 3 rfl) ?_
  refine lv_aload_n hx hb dW_273 rfl (lv_at hl 1 rfl) ?_
  refine lv_iload hx hb dW_274 (lv_at hl 5 rfl) ?_
  refine lv_iconst (v := 1) hx hb dW_276 (by decide) ?_
  refine lv_iadd hx hb dW_277 ?_
  refine zl_sld hx hb hX hbl hbA hS hL (6 * i + 1) (nI_add _ 1) (by omega) dW_278 ?_
  refine zz_ti (y := x1) h1 ?_
  refine lv_aload_n hx hb dW_279 rfl (lv_at hl 1 rfl) ?_
  refine lv_iload hx hb dW_280 (lv_at hl 5 rfl) ?_
  refine lv_iconst (v := 2) hx hb dW_282 (by decide) ?_
  refine lv_iadd hx hb dW_283 ?_
  refine zl_sld hx hb hX hbl hbA hS hL (6 * i + 2) (nI_add _ 2) (by omega) dW_284 ?_
  refine lv_i2l (v := Int32.toInt64 (xs (6 * i + 2))) hx hb dW_285 rfl ?_
  refine lv_bipush (v := 32) hx hb dW_286 (by decide) ?_
  refine lv_lshl (v := (Int32.toInt64 (xs (6 * i + 2))) <<< (Int32.toInt64 32 &&& 63)) hx hb dW_288 rfl ?_
  refine lv_aload_n hx hb dW_289 rfl (lv_at hl 1 rfl) ?_
  refine lv_iload hx hb dW_290 (lv_at hl 5 rfl) ?_
  refine lv_iconst (v := 3) hx hb dW_292 (by decide) ?_
  refine lv_iadd hx hb dW_293 ?_
  refine zl_sld hx hb hX hbl hbA hS hL (6 * i + 3) (nI_add _ 3) (by omega) dW_294 ?_
  refine lv_i2l (v := Int32.toInt64 (xs (6 * i + 3))) hx hb dW_295 rfl ?_
  refine lv_ldc2 (own := RL) (v := 4294967295) hx hb hown (hT.w tw_860) dW_296 ?_
  refine lv_land hx hb dW_299 ?_
  refine lv_lor hx hb dW_300 ?_
  refine zz_tl (y := zl_J (xs (6 * i + 2)) (xs (6 * i + 3))) rfl ?_
  refine lv_aload_n hx hb dW_301 rfl (lv_at hl 1 rfl) ?_
  refine lv_iload hx hb dW_302 (lv_at hl 5 rfl) ?_
  refine lv_iconst (v := 4) hx hb dW_304 (by decide) ?_
  refine lv_iadd hx hb dW_305 ?_
  refine zl_sld hx hb hX hbl hbA hS hL (6 * i + 4) (nI_add _ 4) (by omega) dW_306 ?_
  refine zz_ti (y := x4) h4 ?_
  refine zq_callP zl_pm zl_pm.symm (va_runV (Ts := []) (As := [.int x1, .long (zl_J (xs (6 * i + 2)) (xs (6 * i + 3))), .int x4]) (own := RL) ⟨hx, hb, hml, hown, fun _ h => nomatch h⟩ (hM H.size) (zt_cv hT tc_M_put tv_M_put tw_698 hRM) (zq_preV (q0 := 0) hT (zq_Pl (zq_Pp zl_pm hP)) hK (zq_Dl (zq_Dp zl_pm hD)) rfl hm0) rfl rfl hl.1 rfl (lv_room (Nat.le_of_ble_eq_true rfl)) dW_307 hcs0) hP hD hS hA (fun H locs hP hD hS => ?_)
  refine W.eq (g2 := F0 m 310 ls []) rfl ?_
  refine lv_aload_n hx hb dW_310 rfl (lv_at hl 3 rfl) ?_
  refine zz_call (va_runV (Ts := []) (As := []) (own := RL) ⟨hx, hb, hml, hown, fun _ h => nomatch h⟩ hTh (zt_cv hT tc_M_thrown tv_M_thrown tw_680 ⟨Nat.le_of_ble_eq_true rfl, Nat.le_of_ble_eq_true rfl⟩) (zz_preV (q0 := 0) hT (zq_Pl (zq_Pr hP)) hK rfl hm1) rfl rfl hl.1 rfl (lv_room (Nat.le_of_ble_eq_true rfl)) dW_311 hcs0) ?_
  refine lv_iload hx hb dW_314 (lv_at hl 0 rfl) ?_
  refine zz_ieq (tgt := 321) hx hb dW_316 (by decide) (fun h21 => ?_) (fun h21 => ?_)
  · refine lv_goto (tgt := 1147) hx hb dW_321 (by decide) ?_
    exact kk _ _ _ hP hD hS (lv_sub hl [1, 2, 3, 4, 5] rfl)
  · exact absurd rfl h21
set_option maxHeartbeats 4000000 in
set_option maxRecDepth 100000 in
theorem lw_echo {p : Program} {l : Launch} {e : Env} {s : State} {m : MethodId} {below : List Frame} {meth : Method} {c : Code} {b L : Nat} {xs : Nat → Int32} {A : Nat → Prop} {dC : Nat → ClassId} {dI : Nat → Nat → Nat} {cJ cI cB cZ cS : ClassId} {Q : State → Prop} (E : zl_E p s m c b L xs A dC dI cJ cI cB cZ cS)
    {H : Heap} {locs : List Loc} {cells slots i c0 mo ou fH lH fM lM : Nat} {ls : Array Slot} {CW CW1 Wc W1c Wcr M M1 : va_W} {fo fo1 : Nat → Int64} {k : Int32} {fs fs1 : List Value} (hc : cells + 1 ≤ 634533) (hs : slots + 6 ≤ 7192505) (hi : 6 * i + 6 ≤ L) {x1 : Int32} (h1 : xs (6 * i + 1) = x1)
    (hp : CW.Perm (Wc ++ Wcr)) (hq : (W1c ++ Wcr).Perm CW1) (hH : ∀ sz : Nat, vx_Met l yL_echo [Cond.codeWith yL_echo cL_echo 7 (some .int) hhL_echo] { frames := fH, cells := 1, slots := 6, locals := lH } (va_Pc [.ref c0, .int x1, .long (zl_J (xs (6 * i + 2)) (xs (6 * i + 3))), .long (zl_J (xs (6 * i + 4)) (xs (6 * i + 5)))] (zy_B (dC, dI) vcl (zz_T cJ cI cB cZ cS) (Wc ++ zy_O ou cJ fo) sz)) (zq_Q (dC, dI) vcl (some (.int k)) (Wc ++ zy_O ou cJ fo) (W1c ++ zy_O ou cJ fo1) sz) zy_X 1 6 (va_A (Wc ++ zy_O ou cJ fo) sz)) (hRH : fH + 1 ≤ 12 ∧ 8 + (7 + 11) + lH ≤ 440)
    (hM : ∀ sz : Nat, Met l yM_echo [Cond.code yM_echo cM_echo 6 none] { frames := fM, cells := 0, slots := 0, locals := lM } (va_Pc [.ref mo, .int x1, .long (zl_J (xs (6 * i + 2)) (xs (6 * i + 3))), .long (zl_J (xs (6 * i + 4)) (xs (6 * i + 5)))] (zq_B (dC, dI) vcl (zz_T cJ cI cB cZ cS) M sz)) (zq_Q (dC, dI) vcl none M M1 sz) 0 0 (va_A M sz)) (hRM : fM + 1 ≤ 12 ∧ 8 + (6 + 11) + lM ≤ 440) (hm0 : M[0]? = some (mo, .inr (4, fs))) (hm1 : M1[0]? = some (mo, .inr (4, fs1))) (hTh : Met l yM_thrown [Cond.code yM_thrown cM_thrown 1 (some .int)] { frames := 0, cells := 0, slots := 0, locals := 0 } (va_Pc [.ref mo] (zz_B (dC, dI) vcl (zz_T cJ cI cB cZ cS) M1)) (zz_Q (.int k)) 0 0 (fun _ => False))
    (hP : va_P (dC, dI) vcl (CW ++ (M ++ zy_O ou cJ fo)) H) (hD : va_D A (CW ++ (M ++ zy_O ou cJ fo))) (hS : va_S A s.heap H locs) (hl : lv_has ls 8 [(0, .ref b), (1, .ref c0), (2, .ref mo), (3, .ref ou), (4, .int (nI (6 * i)))])
    (kk : ∀ (H : Heap) (locs : List Loc) (ls : Array Slot), va_P (dC, dI) vcl (CW1 ++ (M1 ++ zy_O ou cJ fo1)) H → va_D A (CW1 ++ (M1 ++ zy_O ou cJ fo1)) → va_S A s.heap H locs → lv_has ls 8 [(0, .ref b), (1, .ref c0), (2, .ref mo), (3, .ref ou), (4, .int (nI (6 * i)))] → W p l e room_1 s m #[Value.ref b] below meth c H locs (cells + 1) (slots + 6) Q (F0 m 1147 ls [])) : W p l e room_1 s m #[Value.ref b] below meth c H locs cells slots Q (F0 m 324 ls []) := by
  obtain ⟨hx, hb, hml, hown, hT, hN, hC, hZ, hK, hA, hX, hbl, hbA, hL⟩ := E
  have hcs : cells + 1 ≤ room_1.cells ∧ slots + 6 ≤ room_1.slots := ⟨hc, hs⟩
  have hcs0 : (cells + 1) + 0 ≤ room_1.cells ∧ (slots + 6) + 0 ≤ room_1.slots := ⟨hc, hs⟩
  refine lv_aload_n hx hb dW_324 rfl (lv_at hl 1 rfl) ?_
  refine lv_aload_n hx hb dW_325 rfl (lv_at hl 0 rfl) ?_
  refine lv_iload hx hb dW_326 (lv_at hl 4 rfl) ?_
  refine lv_iconst (v := 1) hx hb dW_328 (by decide) ?_
  refine lv_iadd hx hb dW_329 ?_
  refine zl_sld hx hb hX hbl hbA hS hL (6 * i + 1) (nI_add _ 1) (by omega) dW_330 ?_
  refine zz_ti (y := x1) h1 ?_
  refine lv_aload_n hx hb dW_331 rfl (lv_at hl 0 rfl) ?_
  refine lv_iload hx hb dW_332 (lv_at hl 4 rfl) ?_
  refine lv_iconst (v := 2) hx hb dW_334 (by decide) ?_
  refine lv_iadd hx hb dW_335 ?_
  refine zl_sld hx hb hX hbl hbA hS hL (6 * i + 2) (nI_add _ 2) (by omega) dW_336 ?_
  refine lv_i2l (v := Int32.toInt64 (xs (6 * i + 2))) hx hb dW_337 rfl ?_
  refine lv_bipush (v := 32) hx hb dW_338 (by decide) ?_
  refine lv_lshl (v := (Int32.toInt64 (xs (6 * i + 2))) <<< (Int32.toInt64 32 &&& 63)) hx hb dW_340 rfl ?_
  refine lv_aload_n hx hb dW_341 rfl (lv_at hl 0 rfl) ?_
  refine lv_iload hx hb dW_342 (lv_at hl 4 rfl) ?_
  refine lv_iconst (v := 3) hx hb dW_344 (by decide) ?_
  refine lv_iadd hx hb dW_345 ?_
  refine zl_sld hx hb hX hbl hbA hS hL (6 * i + 3) (nI_add _ 3) (by omega) dW_346 ?_
  refine lv_i2l (v := Int32.toInt64 (xs (6 * i + 3))) hx hb dW_347 rfl ?_
  refine lv_ldc2 (own := RL) (v := 4294967295) hx hb hown (hT.w tw_860) dW_348 ?_
  refine lv_land hx hb dW_351 ?_
  refine lv_lor hx hb dW_352 ?_
  refine zz_tl (y := zl_J (xs (6 * i + 2)) (xs (6 * i + 3))) rfl ?_
  refine lv_aload_n hx hb dW_353 rfl (lv_at hl 0 rfl) ?_
  refine lv_iload hx hb dW_354 (lv_at hl 4 rfl) ?_
  refine lv_iconst (v := 4) hx hb dW_356 (by decide) ?_
  refine lv_iadd hx hb dW_357 ?_
  refine zl_sld hx hb hX hbl hbA hS hL (6 * i + 4) (nI_add _ 4) (by omega) dW_358 ?_
  refine lv_i2l (v := Int32.toInt64 (xs (6 * i + 4))) hx hb dW_359 rfl ?_
  refine lv_bipush (v := 32) hx hb dW_360 (by decide) ?_
  refine lv_lshl (v := (Int32.toInt64 (xs (6 * i + 4))) <<< (Int32.toInt64 32 &&& 63)) hx hb dW_362 rfl ?_
  refine lv_aload_n hx hb dW_363 rfl (lv_at hl 0 rfl) ?_
  refine lv_iload hx hb dW_364 (lv_at hl 4 rfl) ?_
  refine lv_iconst (v := 5) hx hb dW_366 (by decide) ?_
  refine lv_iadd hx hb dW_367 ?_
  refine zl_sld hx hb hX hbl hbA hS hL (6 * i + 5) (nI_add _ 5) (by omega) dW_368 ?_
  refine lv_i2l (v := Int32.toInt64 (xs (6 * i + 5))) hx hb dW_369 rfl ?_
  refine lv_ldc2 (own := RL) (v := 4294967295) hx hb hown (hT.w tw_860) dW_370 ?_
  refine lv_land hx hb dW_373 ?_
  refine lv_lor hx hb dW_374 ?_
  refine zz_tl (y := zl_J (xs (6 * i + 4)) (xs (6 * i + 5))) rfl ?_
  refine zl_call (zl_p1 hp) (zl_p2 hq) (zy_run (vx_runSX (Ts := []) (As := [.ref c0, .int x1, .long (zl_J (xs (6 * i + 2)) (xs (6 * i + 3))), .long (zl_J (xs (6 * i + 4)) (xs (6 * i + 5)))]) (own := RL) ⟨hx, hb, hml, hown, fun _ h => nomatch h⟩ (hH H.size) (zt_ch hT th_L_echo tw_335 hRH) (zy_preS hT (zq_Pl (zq_Pp (zl_p1 hp) hP)) hK (zq_Dl (zq_Dp (zl_p1 hp) hD)) hN hC hZ hS hA) rfl rfl hl.1 rfl (lv_room (Nat.le_of_ble_eq_true rfl)) dW_375 hcs)) hP hD hS hA (fun H locs hP hD hS => ?_)
  refine W.eq (g2 := F0 m 378 ls [.int k]) rfl ?_
  refine lv_istore (lv' := [(5, .int k), (0, .ref b), (1, .ref c0), (2, .ref mo), (3, .ref ou), (4, .int (nI (6 * i)))]) hx hb dW_378 hl (by decide) rfl (fun ls hl => ?_)
  refine lv_aload_n hx hb dW_380 rfl (lv_at hl 3 rfl) ?_
  refine lv_aload_n hx hb dW_381 rfl (lv_at hl 1 rfl) ?_
  refine lv_iload hx hb dW_382 (lv_at hl 5 rfl) ?_
  refine lv_iconst (v := 1) hx hb dW_384 (by decide) ?_
  refine lv_iadd hx hb dW_385 ?_
  refine zl_sld hx hb hX hbl hbA hS hL (6 * i + 1) (nI_add _ 1) (by omega) dW_386 ?_
  refine zz_ti (y := x1) h1 ?_
  refine lv_aload_n hx hb dW_387 rfl (lv_at hl 1 rfl) ?_
  refine lv_iload hx hb dW_388 (lv_at hl 5 rfl) ?_
  refine lv_iconst (v := 2) hx hb dW_390 (by decide) ?_
  refine lv_iadd hx hb dW_391 ?_
  refine zl_sld hx hb hX hbl hbA hS hL (6 * i + 2) (nI_add _ 2) (by omega) dW_392 ?_
  refine lv_i2l (v := Int32.toInt64 (xs (6 * i + 2))) hx hb dW_393 rfl ?_
  refine lv_bipush (v := 32) hx hb dW_394 (by decide) ?_
  refine lv_lshl (v := (Int32.toInt64 (xs (6 * i + 2))) <<< (Int32.toInt64 32 &&& 63)) hx hb dW_396 rfl ?_
  refine lv_aload_n hx hb dW_397 rfl (lv_at hl 1 rfl) ?_
  refine lv_iload hx hb dW_398 (lv_at hl 5 rfl) ?_
  refine lv_iconst (v := 3) hx hb dW_400 (by decide) ?_
  refine lv_iadd hx hb dW_401 ?_
  refine zl_sld hx hb hX hbl hbA hS hL (6 * i + 3) (nI_add _ 3) (by omega) dW_402 ?_
  refine lv_i2l (v := Int32.toInt64 (xs (6 * i + 3))) hx hb dW_403 rfl ?_
  refine lv_ldc2 (own := RL) (v := 4294967295) hx hb hown (hT.w tw_860) dW_404 ?_
  refine lv_land hx hb dW_407 ?_
  refine lv_lor hx hb dW_408 ?_
  refine zz_tl (y := zl_J (xs (6 * i + 2)) (xs (6 * i + 3))) rfl ?_
  refine lv_aload_n hx hb dW_409 rfl (lv_at hl 1 rfl) ?_
  refine lv_iload hx hb dW_410 (lv_at hl 5 rfl) ?_
  refine lv_iconst (v := 4) hx hb dW_412 (by decide) ?_
  refine lv_iadd hx hb dW_413 ?_
  refine zl_sld hx hb hX hbl hbA hS hL (6 * i + 4) (nI_add _ 4) (by omega) dW_414 ?_
  refine lv_i2l (v := Int32.toInt64 (xs (6 * i + 4))) hx hb dW_415 rfl ?_
  refine lv_bipush (v := 32) hx hb dW_416 (by decide) ?_
  refine lv_lshl (v := (Int32.toInt64 (xs (6 * i + 4))) <<< (Int32.toInt64 32 &&& 63)) hx hb dW_418 rfl ?_
  refine lv_aload_n hx hb dW_419 rfl (lv_at hl 1 rfl) ?_
  refine lv_iload hx hb dW_420 (lv_at hl 5 rfl) ?_
  refine lv_iconst (v := 5) hx hb dW_422 (by decide) ?_
  refine lv_iadd hx hb dW_423 ?_
  refine zl_sld hx hb hX hbl hbA hS hL (6 * i + 5) (nI_add _ 5) (by omega) dW_424 ?_
  refine lv_i2l (v := Int32.toInt64 (xs (6 * i + 5))) hx hb dW_425 rfl ?_
  refine lv_ldc2 (own := RL) (v := 4294967295) hx hb hown (hT.w tw_860) dW_426 ?_
  refine lv_land hx hb dW_429 ?_
  refine lv_lor hx hb dW_430 ?_
  refine zz_tl (y := zl_J (xs (6 * i + 4)) (xs (6 * i + 5))) rfl ?_
  refine zq_callP zl_pm zl_pm.symm (va_runV (Ts := []) (As := [.int x1, .long (zl_J (xs (6 * i + 2)) (xs (6 * i + 3))), .long (zl_J (xs (6 * i + 4)) (xs (6 * i + 5)))]) (own := RL) ⟨hx, hb, hml, hown, fun _ h => nomatch h⟩ (hM H.size) (zt_cv hT tc_M_echo tv_M_echo tw_707 hRM) (zq_preV (q0 := 0) hT (zq_Pl (zq_Pp zl_pm hP)) hK (zq_Dl (zq_Dp zl_pm hD)) rfl hm0) rfl rfl hl.1 rfl (lv_room (Nat.le_of_ble_eq_true rfl)) dW_431 hcs0) hP hD hS hA (fun H locs hP hD hS => ?_)
  refine W.eq (g2 := F0 m 434 ls []) rfl ?_
  refine lv_aload_n hx hb dW_434 rfl (lv_at hl 3 rfl) ?_
  refine zz_call (va_runV (Ts := []) (As := []) (own := RL) ⟨hx, hb, hml, hown, fun _ h => nomatch h⟩ hTh (zt_cv hT tc_M_thrown tv_M_thrown tw_680 ⟨Nat.le_of_ble_eq_true rfl, Nat.le_of_ble_eq_true rfl⟩) (zz_preV (q0 := 0) hT (zq_Pl (zq_Pr hP)) hK rfl hm1) rfl rfl hl.1 rfl (lv_room (Nat.le_of_ble_eq_true rfl)) dW_435 hcs0) ?_
  refine lv_iload hx hb dW_438 (lv_at hl 0 rfl) ?_
  refine zz_ieq (tgt := 445) hx hb dW_440 (by decide) (fun h21 => ?_) (fun h21 => ?_)
  · refine lv_goto (tgt := 1147) hx hb dW_445 (by decide) ?_
    exact kk _ _ _ hP hD hS (lv_sub hl [1, 2, 3, 4, 5] rfl)
  · exact absurd rfl h21
set_option maxHeartbeats 4000000 in
set_option maxRecDepth 100000 in
theorem lw_send {p : Program} {l : Launch} {e : Env} {s : State} {m : MethodId} {below : List Frame} {meth : Method} {c : Code} {b L : Nat} {xs : Nat → Int32} {A : Nat → Prop} {dC : Nat → ClassId} {dI : Nat → Nat → Nat} {cJ cI cB cZ cS : ClassId} {Q : State → Prop} (E : zl_E p s m c b L xs A dC dI cJ cI cB cZ cS)
    {H : Heap} {locs : List Loc} {cells slots i c0 mo ou fH lH fM lM : Nat} {ls : Array Slot} {CW CW1 Wc W1c Wcr M M1 : va_W} {fo fo1 : Nat → Int64} {k : Int32} {rv : Int64} {fs fs1 : List Value} (hc : cells + 1 ≤ 634533) (hs : slots + 6 ≤ 7192505) (hi : 6 * i + 6 ≤ L) {x1 : Int32} (h1 : xs (6 * i + 1) = x1)
    (hp : CW.Perm (Wc ++ Wcr)) (hq : (W1c ++ Wcr).Perm CW1) (hH : ∀ sz : Nat, vx_Met l yL_send [Cond.codeWith yL_send cL_send 4 (some .int) hhL_send] { frames := fH, cells := 1, slots := 6, locals := lH } (va_Pc [.ref c0, .int x1, .ref ou] (zy_B (dC, dI) vcl (zz_T cJ cI cB cZ cS) (Wc ++ zy_O ou cJ fo) sz)) (zq_Q (dC, dI) vcl (some (.int k)) (Wc ++ zy_O ou cJ fo) (W1c ++ zy_O ou cJ fo1) sz) zy_X 1 6 (va_A (Wc ++ zy_O ou cJ fo) sz)) (hRH : fH + 1 ≤ 12 ∧ 8 + (4 + 11) + lH ≤ 440)
    (hM : ∀ sz : Nat, Met l yM_send [Cond.code yM_send cM_send 2 (some .long)] { frames := fM, cells := 0, slots := 0, locals := lM } (va_Pc [.ref mo, .int x1] (zq_B (dC, dI) vcl (zz_T cJ cI cB cZ cS) M sz)) (zq_Q (dC, dI) vcl (some (.long rv)) M M1 sz) 0 0 (va_A M sz)) (hRM : fM + 1 ≤ 12 ∧ 8 + (2 + 11) + lM ≤ 440) (hm0 : M[0]? = some (mo, .inr (4, fs))) (hm1 : M1[0]? = some (mo, .inr (4, fs1))) (hTh : Met l yM_thrown [Cond.code yM_thrown cM_thrown 1 (some .int)] { frames := 0, cells := 0, slots := 0, locals := 0 } (va_Pc [.ref mo] (zz_B (dC, dI) vcl (zz_T cJ cI cB cZ cS) M1)) (zz_Q (.int k)) 0 0 (fun _ => False))
    (hout : k = 0 → fo1 0 = rv)
    (hP : va_P (dC, dI) vcl (CW ++ (M ++ zy_O ou cJ fo)) H) (hD : va_D A (CW ++ (M ++ zy_O ou cJ fo))) (hS : va_S A s.heap H locs) (hl : lv_has ls 8 [(0, .ref b), (1, .ref c0), (2, .ref mo), (3, .ref ou), (4, .int (nI (6 * i)))])
    (kk : ∀ (H : Heap) (locs : List Loc) (ls : Array Slot), va_P (dC, dI) vcl (CW1 ++ (M1 ++ zy_O ou cJ fo1)) H → va_D A (CW1 ++ (M1 ++ zy_O ou cJ fo1)) → va_S A s.heap H locs → lv_has ls 8 [(0, .ref b), (1, .ref c0), (2, .ref mo), (3, .ref ou), (4, .int (nI (6 * i)))] → W p l e room_1 s m #[Value.ref b] below meth c H locs (cells + 1) (slots + 6) Q (F0 m 1147 ls [])) : W p l e room_1 s m #[Value.ref b] below meth c H locs cells slots Q (F0 m 448 ls []) := by
  obtain ⟨hx, hb, hml, hown, hT, hN, hC, hZ, hK, hA, hX, hbl, hbA, hL⟩ := E
  have hcs : cells + 1 ≤ room_1.cells ∧ slots + 6 ≤ room_1.slots := ⟨hc, hs⟩
  have hcs0 : (cells + 1) + 0 ≤ room_1.cells ∧ (slots + 6) + 0 ≤ room_1.slots := ⟨hc, hs⟩
  refine lv_aload_n hx hb dW_448 rfl (lv_at hl 1 rfl) ?_
  refine lv_aload_n hx hb dW_449 rfl (lv_at hl 0 rfl) ?_
  refine lv_iload hx hb dW_450 (lv_at hl 4 rfl) ?_
  refine lv_iconst (v := 1) hx hb dW_452 (by decide) ?_
  refine lv_iadd hx hb dW_453 ?_
  refine zl_sld hx hb hX hbl hbA hS hL (6 * i + 1) (nI_add _ 1) (by omega) dW_454 ?_
  refine zz_ti (y := x1) h1 ?_
  refine lv_aload_n hx hb dW_455 rfl (lv_at hl 3 rfl) ?_
  refine zl_call (zl_p1 hp) (zl_p2 hq) (zy_run (vx_runSX (Ts := []) (As := [.ref c0, .int x1, .ref ou]) (own := RL) ⟨hx, hb, hml, hown, fun _ h => nomatch h⟩ (hH H.size) (zt_ch hT th_L_send tw_363 hRH) (zy_preS hT (zq_Pl (zq_Pp (zl_p1 hp) hP)) hK (zq_Dl (zq_Dp (zl_p1 hp) hD)) hN hC hZ hS hA) rfl rfl hl.1 rfl (lv_room (Nat.le_of_ble_eq_true rfl)) dW_456 hcs)) hP hD hS hA (fun H locs hP hD hS => ?_)
  refine W.eq (g2 := F0 m 459 ls [.int k]) rfl ?_
  refine lv_istore (lv' := [(5, .int k), (0, .ref b), (1, .ref c0), (2, .ref mo), (3, .ref ou), (4, .int (nI (6 * i)))]) hx hb dW_459 hl (by decide) rfl (fun ls hl => ?_)
  refine lv_aload_n hx hb dW_461 rfl (lv_at hl 3 rfl) ?_
  refine lv_aload_n hx hb dW_462 rfl (lv_at hl 1 rfl) ?_
  refine lv_iload hx hb dW_463 (lv_at hl 5 rfl) ?_
  refine lv_iconst (v := 1) hx hb dW_465 (by decide) ?_
  refine lv_iadd hx hb dW_466 ?_
  refine zl_sld hx hb hX hbl hbA hS hL (6 * i + 1) (nI_add _ 1) (by omega) dW_467 ?_
  refine zz_ti (y := x1) h1 ?_
  refine zq_callP zl_pm zl_pm.symm (va_runV (Ts := []) (As := [.int x1]) (own := RL) ⟨hx, hb, hml, hown, fun _ h => nomatch h⟩ (hM H.size) (zt_cv hT tc_M_send tv_M_send tw_714 hRM) (zq_preV (q0 := 0) hT (zq_Pl (zq_Pp zl_pm hP)) hK (zq_Dl (zq_Dp zl_pm hD)) rfl hm0) rfl rfl hl.1 rfl (lv_room (Nat.le_of_ble_eq_true rfl)) dW_468 hcs0) hP hD hS hA (fun H locs hP hD hS => ?_)
  refine W.eq (g2 := F0 m 471 ls [.long rv]) rfl ?_
  refine lv_lstore (lv' := [(6, .long rv), (5, .int k), (0, .ref b), (1, .ref c0), (2, .ref mo), (3, .ref ou), (4, .int (nI (6 * i)))]) hx hb dW_471 hl (by decide) rfl (fun ls hl => ?_)
  refine lv_aload_n hx hb dW_473 rfl (lv_at hl 4 rfl) ?_
  refine zz_call (va_runV (Ts := []) (As := []) (own := RL) ⟨hx, hb, hml, hown, fun _ h => nomatch h⟩ hTh (zt_cv hT tc_M_thrown tv_M_thrown tw_680 ⟨Nat.le_of_ble_eq_true rfl, Nat.le_of_ble_eq_true rfl⟩) (zz_preV (q0 := 0) hT (zq_Pl (zq_Pr hP)) hK rfl hm1) rfl rfl hl.1 rfl (lv_room (Nat.le_of_ble_eq_true rfl)) dW_474 hcs0) ?_
  refine lv_iload hx hb dW_477 (lv_at hl 1 rfl) ?_
  refine zz_ieq (tgt := 484) hx hb dW_479 (by decide) (fun h21 => ?_) (fun h21 => ?_)
  · refine lv_iload hx hb dW_484 (lv_at hl 1 rfl) ?_
    refine zz_zne (tgt := 500) hx hb dW_486 (by decide) (fun h22 => ?_) (fun h22 => ?_)
    · refine lv_goto (tgt := 1147) hx hb dW_500 (by decide) ?_
      exact kk _ _ _ hP hD hS (lv_sub hl [2, 3, 4, 5, 6] rfl)
    · refine lv_aload_n hx hb dW_489 rfl (lv_at hl 5 rfl) ?_
      refine lv_iconst (v := 0) hx hb dW_490 (by decide) ?_
      refine zz_lald hx hb hK (zq_Pr (zq_Pr hP)) 0 0 rfl rfl 0 rfl (by decide) (by decide) dW_491 ?_
      refine lv_lload hx hb dW_492 (lv_at hl 0 rfl) ?_
      refine zz_leq (tgt := 500) hx hb dW_494 dW_495 (by decide) (fun h23 => ?_) (fun h23 => ?_)
      · refine lv_goto (tgt := 1147) hx hb dW_500 (by decide) ?_
        exact kk _ _ _ hP hD hS (lv_sub hl [2, 3, 4, 5, 6] rfl)
      · exact absurd (hout h22) h23
  · exact absurd rfl h21
set_option maxHeartbeats 4000000 in
set_option maxRecDepth 100000 in
theorem lw_receive {p : Program} {l : Launch} {e : Env} {s : State} {m : MethodId} {below : List Frame} {meth : Method} {c : Code} {b L : Nat} {xs : Nat → Int32} {A : Nat → Prop} {dC : Nat → ClassId} {dI : Nat → Nat → Nat} {cJ cI cB cZ cS : ClassId} {Q : State → Prop} (E : zl_E p s m c b L xs A dC dI cJ cI cB cZ cS)
    {H : Heap} {locs : List Loc} {cells slots i c0 mo ou fH lH fM lM : Nat} {ls : Array Slot} {CW CW1 Wc W1c Wcr M M1 : va_W} {fo fo1 : Nat → Int64} {k : Int32} {rv : Int32} {fs fs1 : List Value} (hc : cells + 1 ≤ 634533) (hs : slots + 6 ≤ 7192505) (hi : 6 * i + 6 ≤ L) {x1 : Int32} (h1 : xs (6 * i + 1) = x1)
    (hp : CW.Perm (Wc ++ Wcr)) (hq : (W1c ++ Wcr).Perm CW1) (hH : ∀ sz : Nat, vx_Met l yL_receive [Cond.codeWith yL_receive cL_receive 4 (some .int) hhL_receive] { frames := fH, cells := 1, slots := 6, locals := lH } (va_Pc [.ref c0, .int x1, .ref ou] (zy_B (dC, dI) vcl (zz_T cJ cI cB cZ cS) (Wc ++ zy_O ou cJ fo) sz)) (zq_Q (dC, dI) vcl (some (.int k)) (Wc ++ zy_O ou cJ fo) (W1c ++ zy_O ou cJ fo1) sz) zy_X 1 6 (va_A (Wc ++ zy_O ou cJ fo) sz)) (hRH : fH + 1 ≤ 12 ∧ 8 + (4 + 11) + lH ≤ 440)
    (hM : ∀ sz : Nat, Met l yM_receive [Cond.code yM_receive cM_receive 16 (some .int)] { frames := fM, cells := 0, slots := 0, locals := lM } (va_Pc [.ref mo, .int x1] (zq_B (dC, dI) vcl (zz_T cJ cI cB cZ cS) M sz)) (zq_Q (dC, dI) vcl (some (.int rv)) M M1 sz) 0 0 (va_A M sz)) (hRM : fM + 1 ≤ 12 ∧ 8 + (16 + 11) + lM ≤ 440) (hm0 : M[0]? = some (mo, .inr (4, fs))) (hm1 : M1[0]? = some (mo, .inr (4, fs1))) (hTh : Met l yM_thrown [Cond.code yM_thrown cM_thrown 1 (some .int)] { frames := 0, cells := 0, slots := 0, locals := 0 } (va_Pc [.ref mo] (zz_B (dC, dI) vcl (zz_T cJ cI cB cZ cS) M1)) (zz_Q (.int k)) 0 0 (fun _ => False))
    (hout : k = 0 → fo1 0 = Int32.toInt64 rv)
    (hP : va_P (dC, dI) vcl (CW ++ (M ++ zy_O ou cJ fo)) H) (hD : va_D A (CW ++ (M ++ zy_O ou cJ fo))) (hS : va_S A s.heap H locs) (hl : lv_has ls 8 [(0, .ref b), (1, .ref c0), (2, .ref mo), (3, .ref ou), (4, .int (nI (6 * i)))])
    (kk : ∀ (H : Heap) (locs : List Loc) (ls : Array Slot), va_P (dC, dI) vcl (CW1 ++ (M1 ++ zy_O ou cJ fo1)) H → va_D A (CW1 ++ (M1 ++ zy_O ou cJ fo1)) → va_S A s.heap H locs → lv_has ls 8 [(0, .ref b), (1, .ref c0), (2, .ref mo), (3, .ref ou), (4, .int (nI (6 * i)))] → W p l e room_1 s m #[Value.ref b] below meth c H locs (cells + 1) (slots + 6) Q (F0 m 1147 ls [])) : W p l e room_1 s m #[Value.ref b] below meth c H locs cells slots Q (F0 m 503 ls []) := by
  obtain ⟨hx, hb, hml, hown, hT, hN, hC, hZ, hK, hA, hX, hbl, hbA, hL⟩ := E
  have hcs : cells + 1 ≤ room_1.cells ∧ slots + 6 ≤ room_1.slots := ⟨hc, hs⟩
  have hcs0 : (cells + 1) + 0 ≤ room_1.cells ∧ (slots + 6) + 0 ≤ room_1.slots := ⟨hc, hs⟩
  refine lv_aload_n hx hb dW_503 rfl (lv_at hl 1 rfl) ?_
  refine lv_aload_n hx hb dW_504 rfl (lv_at hl 0 rfl) ?_
  refine lv_iload hx hb dW_505 (lv_at hl 4 rfl) ?_
  refine lv_iconst (v := 1) hx hb dW_507 (by decide) ?_
  refine lv_iadd hx hb dW_508 ?_
  refine zl_sld hx hb hX hbl hbA hS hL (6 * i + 1) (nI_add _ 1) (by omega) dW_509 ?_
  refine zz_ti (y := x1) h1 ?_
  refine lv_aload_n hx hb dW_510 rfl (lv_at hl 3 rfl) ?_
  refine zl_call (zl_p1 hp) (zl_p2 hq) (zy_run (vx_runSX (Ts := []) (As := [.ref c0, .int x1, .ref ou]) (own := RL) ⟨hx, hb, hml, hown, fun _ h => nomatch h⟩ (hH H.size) (zt_ch hT th_L_receive tw_374 hRH) (zy_preS hT (zq_Pl (zq_Pp (zl_p1 hp) hP)) hK (zq_Dl (zq_Dp (zl_p1 hp) hD)) hN hC hZ hS hA) rfl rfl hl.1 rfl (lv_room (Nat.le_of_ble_eq_true rfl)) dW_511 hcs)) hP hD hS hA (fun H locs hP hD hS => ?_)
  refine W.eq (g2 := F0 m 514 ls [.int k]) rfl ?_
  refine lv_istore (lv' := [(5, .int k), (0, .ref b), (1, .ref c0), (2, .ref mo), (3, .ref ou), (4, .int (nI (6 * i)))]) hx hb dW_514 hl (by decide) rfl (fun ls hl => ?_)
  refine lv_aload_n hx hb dW_516 rfl (lv_at hl 3 rfl) ?_
  refine lv_aload_n hx hb dW_517 rfl (lv_at hl 1 rfl) ?_
  refine lv_iload hx hb dW_518 (lv_at hl 5 rfl) ?_
  refine lv_iconst (v := 1) hx hb dW_520 (by decide) ?_
  refine lv_iadd hx hb dW_521 ?_
  refine zl_sld hx hb hX hbl hbA hS hL (6 * i + 1) (nI_add _ 1) (by omega) dW_522 ?_
  refine zz_ti (y := x1) h1 ?_
  refine zq_callP zl_pm zl_pm.symm (va_runV (Ts := []) (As := [.int x1]) (own := RL) ⟨hx, hb, hml, hown, fun _ h => nomatch h⟩ (hM H.size) (zt_cv hT tc_M_receive tv_M_receive tw_718 hRM) (zq_preV (q0 := 0) hT (zq_Pl (zq_Pp zl_pm hP)) hK (zq_Dl (zq_Dp zl_pm hD)) rfl hm0) rfl rfl hl.1 rfl (lv_room (Nat.le_of_ble_eq_true rfl)) dW_523 hcs0) hP hD hS hA (fun H locs hP hD hS => ?_)
  refine W.eq (g2 := F0 m 526 ls [.int rv]) rfl ?_
  refine lv_istore (lv' := [(6, .int rv), (5, .int k), (0, .ref b), (1, .ref c0), (2, .ref mo), (3, .ref ou), (4, .int (nI (6 * i)))]) hx hb dW_526 hl (by decide) rfl (fun ls hl => ?_)
  refine lv_aload_n hx hb dW_528 rfl (lv_at hl 4 rfl) ?_
  refine zz_call (va_runV (Ts := []) (As := []) (own := RL) ⟨hx, hb, hml, hown, fun _ h => nomatch h⟩ hTh (zt_cv hT tc_M_thrown tv_M_thrown tw_680 ⟨Nat.le_of_ble_eq_true rfl, Nat.le_of_ble_eq_true rfl⟩) (zz_preV (q0 := 0) hT (zq_Pl (zq_Pr hP)) hK rfl hm1) rfl rfl hl.1 rfl (lv_room (Nat.le_of_ble_eq_true rfl)) dW_529 hcs0) ?_
  refine lv_iload hx hb dW_532 (lv_at hl 1 rfl) ?_
  refine zz_ieq (tgt := 539) hx hb dW_534 (by decide) (fun h21 => ?_) (fun h21 => ?_)
  · refine lv_iload hx hb dW_539 (lv_at hl 1 rfl) ?_
    refine zz_zne (tgt := 556) hx hb dW_541 (by decide) (fun h22 => ?_) (fun h22 => ?_)
    · refine lv_goto (tgt := 1147) hx hb dW_556 (by decide) ?_
      exact kk _ _ _ hP hD hS (lv_sub hl [2, 3, 4, 5, 6] rfl)
    · refine lv_aload_n hx hb dW_544 rfl (lv_at hl 5 rfl) ?_
      refine lv_iconst (v := 0) hx hb dW_545 (by decide) ?_
      refine zz_lald hx hb hK (zq_Pr (zq_Pr hP)) 0 0 rfl rfl 0 rfl (by decide) (by decide) dW_546 ?_
      refine lv_iload hx hb dW_547 (lv_at hl 0 rfl) ?_
      refine lv_i2l (v := Int32.toInt64 rv) hx hb dW_549 rfl ?_
      refine zz_leq (tgt := 556) hx hb dW_550 dW_551 (by decide) (fun h23 => ?_) (fun h23 => ?_)
      · refine lv_goto (tgt := 1147) hx hb dW_556 (by decide) ?_
        exact kk _ _ _ hP hD hS (lv_sub hl [2, 3, 4, 5, 6] rfl)
      · exact absurd (hout h22) h23
  · exact absurd rfl h21
set_option maxHeartbeats 4000000 in
set_option maxRecDepth 100000 in
theorem lw_reach {p : Program} {l : Launch} {e : Env} {s : State} {m : MethodId} {below : List Frame} {meth : Method} {c : Code} {b L : Nat} {xs : Nat → Int32} {A : Nat → Prop} {dC : Nat → ClassId} {dI : Nat → Nat → Nat} {cJ cI cB cZ cS : ClassId} {Q : State → Prop} (E : zl_E p s m c b L xs A dC dI cJ cI cB cZ cS)
    {H : Heap} {locs : List Loc} {cells slots i c0 mo ou fH lH fM lM : Nat} {ls : Array Slot} {CW CW1 Wc W1c Wcr M M1 : va_W} {fo fo1 : Nat → Int64} {k : Int32} {rv : Int32} {fs fs1 : List Value} (hc : cells + 1 ≤ 634533) (hs : slots + 6 ≤ 7192505) (hi : 6 * i + 6 ≤ L) {x1 : Int32} (h1 : xs (6 * i + 1) = x1)
    (hp : CW.Perm (Wc ++ Wcr)) (hq : (W1c ++ Wcr).Perm CW1) (hH : ∀ sz : Nat, vx_Met l yL_reach [Cond.codeWith yL_reach cL_reach 4 (some .int) hhL_reach] { frames := fH, cells := 1, slots := 6, locals := lH } (va_Pc [.ref c0, .int x1, .ref ou] (zy_B (dC, dI) vcl (zz_T cJ cI cB cZ cS) (Wc ++ zy_O ou cJ fo) sz)) (zq_Q (dC, dI) vcl (some (.int k)) (Wc ++ zy_O ou cJ fo) (W1c ++ zy_O ou cJ fo1) sz) zy_X 1 6 (va_A (Wc ++ zy_O ou cJ fo) sz)) (hRH : fH + 1 ≤ 12 ∧ 8 + (4 + 11) + lH ≤ 440)
    (hM : ∀ sz : Nat, Met l yM_reach [Cond.code yM_reach cM_reach 2 (some .int)] { frames := fM, cells := 0, slots := 0, locals := lM } (va_Pc [.ref mo, .int x1] (zq_B (dC, dI) vcl (zz_T cJ cI cB cZ cS) M sz)) (zq_Q (dC, dI) vcl (some (.int rv)) M M1 sz) 0 0 (va_A M sz)) (hRM : fM + 1 ≤ 12 ∧ 8 + (2 + 11) + lM ≤ 440) (hm0 : M[0]? = some (mo, .inr (4, fs))) (hm1 : M1[0]? = some (mo, .inr (4, fs1))) (hTh : Met l yM_thrown [Cond.code yM_thrown cM_thrown 1 (some .int)] { frames := 0, cells := 0, slots := 0, locals := 0 } (va_Pc [.ref mo] (zz_B (dC, dI) vcl (zz_T cJ cI cB cZ cS) M1)) (zz_Q (.int k)) 0 0 (fun _ => False))
    (hout : k = 0 → fo1 0 = Int32.toInt64 rv)
    (hP : va_P (dC, dI) vcl (CW ++ (M ++ zy_O ou cJ fo)) H) (hD : va_D A (CW ++ (M ++ zy_O ou cJ fo))) (hS : va_S A s.heap H locs) (hl : lv_has ls 8 [(0, .ref b), (1, .ref c0), (2, .ref mo), (3, .ref ou), (4, .int (nI (6 * i)))])
    (kk : ∀ (H : Heap) (locs : List Loc) (ls : Array Slot), va_P (dC, dI) vcl (CW1 ++ (M1 ++ zy_O ou cJ fo1)) H → va_D A (CW1 ++ (M1 ++ zy_O ou cJ fo1)) → va_S A s.heap H locs → lv_has ls 8 [(0, .ref b), (1, .ref c0), (2, .ref mo), (3, .ref ou), (4, .int (nI (6 * i)))] → W p l e room_1 s m #[Value.ref b] below meth c H locs (cells + 1) (slots + 6) Q (F0 m 1147 ls [])) : W p l e room_1 s m #[Value.ref b] below meth c H locs cells slots Q (F0 m 559 ls []) := by
  obtain ⟨hx, hb, hml, hown, hT, hN, hC, hZ, hK, hA, hX, hbl, hbA, hL⟩ := E
  have hcs : cells + 1 ≤ room_1.cells ∧ slots + 6 ≤ room_1.slots := ⟨hc, hs⟩
  have hcs0 : (cells + 1) + 0 ≤ room_1.cells ∧ (slots + 6) + 0 ≤ room_1.slots := ⟨hc, hs⟩
  refine lv_aload_n hx hb dW_559 rfl (lv_at hl 1 rfl) ?_
  refine lv_aload_n hx hb dW_560 rfl (lv_at hl 0 rfl) ?_
  refine lv_iload hx hb dW_561 (lv_at hl 4 rfl) ?_
  refine lv_iconst (v := 1) hx hb dW_563 (by decide) ?_
  refine lv_iadd hx hb dW_564 ?_
  refine zl_sld hx hb hX hbl hbA hS hL (6 * i + 1) (nI_add _ 1) (by omega) dW_565 ?_
  refine zz_ti (y := x1) h1 ?_
  refine lv_aload_n hx hb dW_566 rfl (lv_at hl 3 rfl) ?_
  refine zl_call (zl_p1 hp) (zl_p2 hq) (zy_run (vx_runSX (Ts := []) (As := [.ref c0, .int x1, .ref ou]) (own := RL) ⟨hx, hb, hml, hown, fun _ h => nomatch h⟩ (hH H.size) (zt_ch hT th_L_reach tw_440 hRH) (zy_preS hT (zq_Pl (zq_Pp (zl_p1 hp) hP)) hK (zq_Dl (zq_Dp (zl_p1 hp) hD)) hN hC hZ hS hA) rfl rfl hl.1 rfl (lv_room (Nat.le_of_ble_eq_true rfl)) dW_567 hcs)) hP hD hS hA (fun H locs hP hD hS => ?_)
  refine W.eq (g2 := F0 m 570 ls [.int k]) rfl ?_
  refine lv_istore (lv' := [(5, .int k), (0, .ref b), (1, .ref c0), (2, .ref mo), (3, .ref ou), (4, .int (nI (6 * i)))]) hx hb dW_570 hl (by decide) rfl (fun ls hl => ?_)
  refine lv_aload_n hx hb dW_572 rfl (lv_at hl 3 rfl) ?_
  refine lv_aload_n hx hb dW_573 rfl (lv_at hl 1 rfl) ?_
  refine lv_iload hx hb dW_574 (lv_at hl 5 rfl) ?_
  refine lv_iconst (v := 1) hx hb dW_576 (by decide) ?_
  refine lv_iadd hx hb dW_577 ?_
  refine zl_sld hx hb hX hbl hbA hS hL (6 * i + 1) (nI_add _ 1) (by omega) dW_578 ?_
  refine zz_ti (y := x1) h1 ?_
  refine zq_callP zl_pm zl_pm.symm (va_runV (Ts := []) (As := [.int x1]) (own := RL) ⟨hx, hb, hml, hown, fun _ h => nomatch h⟩ (hM H.size) (zt_cv hT tc_M_reach tv_M_reach tw_739 hRM) (zq_preV (q0 := 0) hT (zq_Pl (zq_Pp zl_pm hP)) hK (zq_Dl (zq_Dp zl_pm hD)) rfl hm0) rfl rfl hl.1 rfl (lv_room (Nat.le_of_ble_eq_true rfl)) dW_579 hcs0) hP hD hS hA (fun H locs hP hD hS => ?_)
  refine W.eq (g2 := F0 m 582 ls [.int rv]) rfl ?_
  refine lv_istore (lv' := [(6, .int rv), (5, .int k), (0, .ref b), (1, .ref c0), (2, .ref mo), (3, .ref ou), (4, .int (nI (6 * i)))]) hx hb dW_582 hl (by decide) rfl (fun ls hl => ?_)
  refine lv_aload_n hx hb dW_584 rfl (lv_at hl 4 rfl) ?_
  refine zz_call (va_runV (Ts := []) (As := []) (own := RL) ⟨hx, hb, hml, hown, fun _ h => nomatch h⟩ hTh (zt_cv hT tc_M_thrown tv_M_thrown tw_680 ⟨Nat.le_of_ble_eq_true rfl, Nat.le_of_ble_eq_true rfl⟩) (zz_preV (q0 := 0) hT (zq_Pl (zq_Pr hP)) hK rfl hm1) rfl rfl hl.1 rfl (lv_room (Nat.le_of_ble_eq_true rfl)) dW_585 hcs0) ?_
  refine lv_iload hx hb dW_588 (lv_at hl 1 rfl) ?_
  refine zz_ieq (tgt := 595) hx hb dW_590 (by decide) (fun h21 => ?_) (fun h21 => ?_)
  · refine lv_iload hx hb dW_595 (lv_at hl 1 rfl) ?_
    refine zz_zne (tgt := 612) hx hb dW_597 (by decide) (fun h22 => ?_) (fun h22 => ?_)
    · refine lv_goto (tgt := 1147) hx hb dW_612 (by decide) ?_
      exact kk _ _ _ hP hD hS (lv_sub hl [2, 3, 4, 5, 6] rfl)
    · refine lv_aload_n hx hb dW_600 rfl (lv_at hl 5 rfl) ?_
      refine lv_iconst (v := 0) hx hb dW_601 (by decide) ?_
      refine zz_lald hx hb hK (zq_Pr (zq_Pr hP)) 0 0 rfl rfl 0 rfl (by decide) (by decide) dW_602 ?_
      refine lv_iload hx hb dW_603 (lv_at hl 0 rfl) ?_
      refine lv_i2l (v := Int32.toInt64 rv) hx hb dW_605 rfl ?_
      refine zz_leq (tgt := 612) hx hb dW_606 dW_607 (by decide) (fun h23 => ?_) (fun h23 => ?_)
      · refine lv_goto (tgt := 1147) hx hb dW_612 (by decide) ?_
        exact kk _ _ _ hP hD hS (lv_sub hl [2, 3, 4, 5, 6] rfl)
      · exact absurd (hout h22) h23
  · exact absurd rfl h21
set_option maxHeartbeats 4000000 in
set_option maxRecDepth 100000 in
theorem lw_poll {p : Program} {l : Launch} {e : Env} {s : State} {m : MethodId} {below : List Frame} {meth : Method} {c : Code} {b L : Nat} {xs : Nat → Int32} {A : Nat → Prop} {dC : Nat → ClassId} {dI : Nat → Nat → Nat} {cJ cI cB cZ cS : ClassId} {Q : State → Prop} (E : zl_E p s m c b L xs A dC dI cJ cI cB cZ cS)
    {H : Heap} {locs : List Loc} {cells slots i c0 mo ou fH lH fM lM : Nat} {ls : Array Slot} {CW CW1 Wc W1c Wcr M M1 : va_W} {fo fo1 : Nat → Int64} {k : Int32} {rv : Int32} {fs fs1 : List Value} (hc : cells + 1 ≤ 634533) (hs : slots + 6 ≤ 7192505) (hi : 6 * i + 6 ≤ L) {x1 : Int32} (h1 : xs (6 * i + 1) = x1)
    (hp : CW.Perm (Wc ++ Wcr)) (hq : (W1c ++ Wcr).Perm CW1) (hH : ∀ sz : Nat, vx_Met l yL_poll [Cond.codeWith yL_poll cL_poll 4 (some .int) hhL_poll] { frames := fH, cells := 1, slots := 6, locals := lH } (va_Pc [.ref c0, .int x1, .ref ou] (zy_B (dC, dI) vcl (zz_T cJ cI cB cZ cS) (Wc ++ zy_O ou cJ fo) sz)) (zq_Q (dC, dI) vcl (some (.int k)) (Wc ++ zy_O ou cJ fo) (W1c ++ zy_O ou cJ fo1) sz) zy_X 1 6 (va_A (Wc ++ zy_O ou cJ fo) sz)) (hRH : fH + 1 ≤ 12 ∧ 8 + (4 + 11) + lH ≤ 440)
    (hM : ∀ sz : Nat, Met l yM_poll [Cond.code yM_poll cM_poll 2 (some .int)] { frames := fM, cells := 0, slots := 0, locals := lM } (va_Pc [.ref mo, .int x1] (zq_B (dC, dI) vcl (zz_T cJ cI cB cZ cS) M sz)) (zq_Q (dC, dI) vcl (some (.int rv)) M M1 sz) 0 0 (va_A M sz)) (hRM : fM + 1 ≤ 12 ∧ 8 + (2 + 11) + lM ≤ 440) (hm0 : M[0]? = some (mo, .inr (4, fs))) (hm1 : M1[0]? = some (mo, .inr (4, fs1))) (hTh : Met l yM_thrown [Cond.code yM_thrown cM_thrown 1 (some .int)] { frames := 0, cells := 0, slots := 0, locals := 0 } (va_Pc [.ref mo] (zz_B (dC, dI) vcl (zz_T cJ cI cB cZ cS) M1)) (zz_Q (.int k)) 0 0 (fun _ => False))
    (hout : k = 0 → fo1 0 = Int32.toInt64 rv)
    (hP : va_P (dC, dI) vcl (CW ++ (M ++ zy_O ou cJ fo)) H) (hD : va_D A (CW ++ (M ++ zy_O ou cJ fo))) (hS : va_S A s.heap H locs) (hl : lv_has ls 8 [(0, .ref b), (1, .ref c0), (2, .ref mo), (3, .ref ou), (4, .int (nI (6 * i)))])
    (kk : ∀ (H : Heap) (locs : List Loc) (ls : Array Slot), va_P (dC, dI) vcl (CW1 ++ (M1 ++ zy_O ou cJ fo1)) H → va_D A (CW1 ++ (M1 ++ zy_O ou cJ fo1)) → va_S A s.heap H locs → lv_has ls 8 [(0, .ref b), (1, .ref c0), (2, .ref mo), (3, .ref ou), (4, .int (nI (6 * i)))] → W p l e room_1 s m #[Value.ref b] below meth c H locs (cells + 1) (slots + 6) Q (F0 m 1147 ls [])) : W p l e room_1 s m #[Value.ref b] below meth c H locs cells slots Q (F0 m 615 ls []) := by
  obtain ⟨hx, hb, hml, hown, hT, hN, hC, hZ, hK, hA, hX, hbl, hbA, hL⟩ := E
  have hcs : cells + 1 ≤ room_1.cells ∧ slots + 6 ≤ room_1.slots := ⟨hc, hs⟩
  have hcs0 : (cells + 1) + 0 ≤ room_1.cells ∧ (slots + 6) + 0 ≤ room_1.slots := ⟨hc, hs⟩
  refine lv_aload_n hx hb dW_615 rfl (lv_at hl 1 rfl) ?_
  refine lv_aload_n hx hb dW_616 rfl (lv_at hl 0 rfl) ?_
  refine lv_iload hx hb dW_617 (lv_at hl 4 rfl) ?_
  refine lv_iconst (v := 1) hx hb dW_619 (by decide) ?_
  refine lv_iadd hx hb dW_620 ?_
  refine zl_sld hx hb hX hbl hbA hS hL (6 * i + 1) (nI_add _ 1) (by omega) dW_621 ?_
  refine zz_ti (y := x1) h1 ?_
  refine lv_aload_n hx hb dW_622 rfl (lv_at hl 3 rfl) ?_
  refine zl_call (zl_p1 hp) (zl_p2 hq) (zy_run (vx_runSX (Ts := []) (As := [.ref c0, .int x1, .ref ou]) (own := RL) ⟨hx, hb, hml, hown, fun _ h => nomatch h⟩ (hH H.size) (zt_ch hT th_L_poll tw_447 hRH) (zy_preS hT (zq_Pl (zq_Pp (zl_p1 hp) hP)) hK (zq_Dl (zq_Dp (zl_p1 hp) hD)) hN hC hZ hS hA) rfl rfl hl.1 rfl (lv_room (Nat.le_of_ble_eq_true rfl)) dW_623 hcs)) hP hD hS hA (fun H locs hP hD hS => ?_)
  refine W.eq (g2 := F0 m 626 ls [.int k]) rfl ?_
  refine lv_istore (lv' := [(5, .int k), (0, .ref b), (1, .ref c0), (2, .ref mo), (3, .ref ou), (4, .int (nI (6 * i)))]) hx hb dW_626 hl (by decide) rfl (fun ls hl => ?_)
  refine lv_aload_n hx hb dW_628 rfl (lv_at hl 3 rfl) ?_
  refine lv_aload_n hx hb dW_629 rfl (lv_at hl 1 rfl) ?_
  refine lv_iload hx hb dW_630 (lv_at hl 5 rfl) ?_
  refine lv_iconst (v := 1) hx hb dW_632 (by decide) ?_
  refine lv_iadd hx hb dW_633 ?_
  refine zl_sld hx hb hX hbl hbA hS hL (6 * i + 1) (nI_add _ 1) (by omega) dW_634 ?_
  refine zz_ti (y := x1) h1 ?_
  refine zq_callP zl_pm zl_pm.symm (va_runV (Ts := []) (As := [.int x1]) (own := RL) ⟨hx, hb, hml, hown, fun _ h => nomatch h⟩ (hM H.size) (zt_cv hT tc_M_poll tv_M_poll tw_743 hRM) (zq_preV (q0 := 0) hT (zq_Pl (zq_Pp zl_pm hP)) hK (zq_Dl (zq_Dp zl_pm hD)) rfl hm0) rfl rfl hl.1 rfl (lv_room (Nat.le_of_ble_eq_true rfl)) dW_635 hcs0) hP hD hS hA (fun H locs hP hD hS => ?_)
  refine W.eq (g2 := F0 m 638 ls [.int rv]) rfl ?_
  refine lv_istore (lv' := [(6, .int rv), (5, .int k), (0, .ref b), (1, .ref c0), (2, .ref mo), (3, .ref ou), (4, .int (nI (6 * i)))]) hx hb dW_638 hl (by decide) rfl (fun ls hl => ?_)
  refine lv_aload_n hx hb dW_640 rfl (lv_at hl 4 rfl) ?_
  refine zz_call (va_runV (Ts := []) (As := []) (own := RL) ⟨hx, hb, hml, hown, fun _ h => nomatch h⟩ hTh (zt_cv hT tc_M_thrown tv_M_thrown tw_680 ⟨Nat.le_of_ble_eq_true rfl, Nat.le_of_ble_eq_true rfl⟩) (zz_preV (q0 := 0) hT (zq_Pl (zq_Pr hP)) hK rfl hm1) rfl rfl hl.1 rfl (lv_room (Nat.le_of_ble_eq_true rfl)) dW_641 hcs0) ?_
  refine lv_iload hx hb dW_644 (lv_at hl 1 rfl) ?_
  refine zz_ieq (tgt := 651) hx hb dW_646 (by decide) (fun h21 => ?_) (fun h21 => ?_)
  · refine lv_iload hx hb dW_651 (lv_at hl 1 rfl) ?_
    refine zz_zne (tgt := 668) hx hb dW_653 (by decide) (fun h22 => ?_) (fun h22 => ?_)
    · refine lv_goto (tgt := 1147) hx hb dW_668 (by decide) ?_
      exact kk _ _ _ hP hD hS (lv_sub hl [2, 3, 4, 5, 6] rfl)
    · refine lv_aload_n hx hb dW_656 rfl (lv_at hl 5 rfl) ?_
      refine lv_iconst (v := 0) hx hb dW_657 (by decide) ?_
      refine zz_lald hx hb hK (zq_Pr (zq_Pr hP)) 0 0 rfl rfl 0 rfl (by decide) (by decide) dW_658 ?_
      refine lv_iload hx hb dW_659 (lv_at hl 0 rfl) ?_
      refine lv_i2l (v := Int32.toInt64 rv) hx hb dW_661 rfl ?_
      refine zz_leq (tgt := 668) hx hb dW_662 dW_663 (by decide) (fun h23 => ?_) (fun h23 => ?_)
      · refine lv_goto (tgt := 1147) hx hb dW_668 (by decide) ?_
        exact kk _ _ _ hP hD hS (lv_sub hl [2, 3, 4, 5, 6] rfl)
      · exact absurd (hout h22) h23
  · exact absurd rfl h21
set_option maxHeartbeats 4000000 in
set_option maxRecDepth 100000 in
theorem lw_samples {p : Program} {l : Launch} {e : Env} {s : State} {m : MethodId} {below : List Frame} {meth : Method} {c : Code} {b L : Nat} {xs : Nat → Int32} {A : Nat → Prop} {dC : Nat → ClassId} {dI : Nat → Nat → Nat} {cJ cI cB cZ cS : ClassId} {Q : State → Prop} (E : zl_E p s m c b L xs A dC dI cJ cI cB cZ cS)
    {H : Heap} {locs : List Loc} {cells slots i c0 mo ou fH lH fM lM : Nat} {ls : Array Slot} {CW CW1 Wc W1c Wcr M M1 : va_W} {fo fo1 : Nat → Int64} {k : Int32} {rv : Int32} {fs fs1 : List Value} (hc : cells + 1 ≤ 634533) (hs : slots + 6 ≤ 7192505) (hi : 6 * i + 6 ≤ L) {x1 : Int32} (h1 : xs (6 * i + 1) = x1)
    (hp : CW.Perm (Wc ++ Wcr)) (hq : (W1c ++ Wcr).Perm CW1) (hH : ∀ sz : Nat, vx_Met l yL_samples [Cond.codeWith yL_samples cL_samples 4 (some .int) hhL_samples] { frames := fH, cells := 1, slots := 6, locals := lH } (va_Pc [.ref c0, .int x1, .ref ou] (zy_B (dC, dI) vcl (zz_T cJ cI cB cZ cS) (Wc ++ zy_O ou cJ fo) sz)) (zq_Q (dC, dI) vcl (some (.int k)) (Wc ++ zy_O ou cJ fo) (W1c ++ zy_O ou cJ fo1) sz) zy_X 1 6 (va_A (Wc ++ zy_O ou cJ fo) sz)) (hRH : fH + 1 ≤ 12 ∧ 8 + (4 + 11) + lH ≤ 440)
    (hM : ∀ sz : Nat, Met l yM_samples [Cond.code yM_samples cM_samples 2 (some .int)] { frames := fM, cells := 0, slots := 0, locals := lM } (va_Pc [.ref mo, .int x1] (zq_B (dC, dI) vcl (zz_T cJ cI cB cZ cS) M sz)) (zq_Q (dC, dI) vcl (some (.int rv)) M M1 sz) 0 0 (va_A M sz)) (hRM : fM + 1 ≤ 12 ∧ 8 + (2 + 11) + lM ≤ 440) (hm0 : M[0]? = some (mo, .inr (4, fs))) (hm1 : M1[0]? = some (mo, .inr (4, fs1))) (hTh : Met l yM_thrown [Cond.code yM_thrown cM_thrown 1 (some .int)] { frames := 0, cells := 0, slots := 0, locals := 0 } (va_Pc [.ref mo] (zz_B (dC, dI) vcl (zz_T cJ cI cB cZ cS) M1)) (zz_Q (.int k)) 0 0 (fun _ => False))
    (hout : k = 0 → fo1 0 = Int32.toInt64 rv)
    (hP : va_P (dC, dI) vcl (CW ++ (M ++ zy_O ou cJ fo)) H) (hD : va_D A (CW ++ (M ++ zy_O ou cJ fo))) (hS : va_S A s.heap H locs) (hl : lv_has ls 8 [(0, .ref b), (1, .ref c0), (2, .ref mo), (3, .ref ou), (4, .int (nI (6 * i)))])
    (kk : ∀ (H : Heap) (locs : List Loc) (ls : Array Slot), va_P (dC, dI) vcl (CW1 ++ (M1 ++ zy_O ou cJ fo1)) H → va_D A (CW1 ++ (M1 ++ zy_O ou cJ fo1)) → va_S A s.heap H locs → lv_has ls 8 [(0, .ref b), (1, .ref c0), (2, .ref mo), (3, .ref ou), (4, .int (nI (6 * i)))] → W p l e room_1 s m #[Value.ref b] below meth c H locs (cells + 1) (slots + 6) Q (F0 m 1147 ls [])) : W p l e room_1 s m #[Value.ref b] below meth c H locs cells slots Q (F0 m 671 ls []) := by
  obtain ⟨hx, hb, hml, hown, hT, hN, hC, hZ, hK, hA, hX, hbl, hbA, hL⟩ := E
  have hcs : cells + 1 ≤ room_1.cells ∧ slots + 6 ≤ room_1.slots := ⟨hc, hs⟩
  have hcs0 : (cells + 1) + 0 ≤ room_1.cells ∧ (slots + 6) + 0 ≤ room_1.slots := ⟨hc, hs⟩
  refine lv_aload_n hx hb dW_671 rfl (lv_at hl 1 rfl) ?_
  refine lv_aload_n hx hb dW_672 rfl (lv_at hl 0 rfl) ?_
  refine lv_iload hx hb dW_673 (lv_at hl 4 rfl) ?_
  refine lv_iconst (v := 1) hx hb dW_675 (by decide) ?_
  refine lv_iadd hx hb dW_676 ?_
  refine zl_sld hx hb hX hbl hbA hS hL (6 * i + 1) (nI_add _ 1) (by omega) dW_677 ?_
  refine zz_ti (y := x1) h1 ?_
  refine lv_aload_n hx hb dW_678 rfl (lv_at hl 3 rfl) ?_
  refine zl_call (zl_p1 hp) (zl_p2 hq) (zy_run (vx_runSX (Ts := []) (As := [.ref c0, .int x1, .ref ou]) (own := RL) ⟨hx, hb, hml, hown, fun _ h => nomatch h⟩ (hH H.size) (zt_ch hT th_L_samples tw_454 hRH) (zy_preS hT (zq_Pl (zq_Pp (zl_p1 hp) hP)) hK (zq_Dl (zq_Dp (zl_p1 hp) hD)) hN hC hZ hS hA) rfl rfl hl.1 rfl (lv_room (Nat.le_of_ble_eq_true rfl)) dW_679 hcs)) hP hD hS hA (fun H locs hP hD hS => ?_)
  refine W.eq (g2 := F0 m 682 ls [.int k]) rfl ?_
  refine lv_istore (lv' := [(5, .int k), (0, .ref b), (1, .ref c0), (2, .ref mo), (3, .ref ou), (4, .int (nI (6 * i)))]) hx hb dW_682 hl (by decide) rfl (fun ls hl => ?_)
  refine lv_aload_n hx hb dW_684 rfl (lv_at hl 3 rfl) ?_
  refine lv_aload_n hx hb dW_685 rfl (lv_at hl 1 rfl) ?_
  refine lv_iload hx hb dW_686 (lv_at hl 5 rfl) ?_
  refine lv_iconst (v := 1) hx hb dW_688 (by decide) ?_
  refine lv_iadd hx hb dW_689 ?_
  refine zl_sld hx hb hX hbl hbA hS hL (6 * i + 1) (nI_add _ 1) (by omega) dW_690 ?_
  refine zz_ti (y := x1) h1 ?_
  refine zq_callP zl_pm zl_pm.symm (va_runV (Ts := []) (As := [.int x1]) (own := RL) ⟨hx, hb, hml, hown, fun _ h => nomatch h⟩ (hM H.size) (zt_cv hT tc_M_samples tv_M_samples tw_747 hRM) (zq_preV (q0 := 0) hT (zq_Pl (zq_Pp zl_pm hP)) hK (zq_Dl (zq_Dp zl_pm hD)) rfl hm0) rfl rfl hl.1 rfl (lv_room (Nat.le_of_ble_eq_true rfl)) dW_691 hcs0) hP hD hS hA (fun H locs hP hD hS => ?_)
  refine W.eq (g2 := F0 m 694 ls [.int rv]) rfl ?_
  refine lv_istore (lv' := [(6, .int rv), (5, .int k), (0, .ref b), (1, .ref c0), (2, .ref mo), (3, .ref ou), (4, .int (nI (6 * i)))]) hx hb dW_694 hl (by decide) rfl (fun ls hl => ?_)
  refine lv_aload_n hx hb dW_696 rfl (lv_at hl 4 rfl) ?_
  refine zz_call (va_runV (Ts := []) (As := []) (own := RL) ⟨hx, hb, hml, hown, fun _ h => nomatch h⟩ hTh (zt_cv hT tc_M_thrown tv_M_thrown tw_680 ⟨Nat.le_of_ble_eq_true rfl, Nat.le_of_ble_eq_true rfl⟩) (zz_preV (q0 := 0) hT (zq_Pl (zq_Pr hP)) hK rfl hm1) rfl rfl hl.1 rfl (lv_room (Nat.le_of_ble_eq_true rfl)) dW_697 hcs0) ?_
  refine lv_iload hx hb dW_700 (lv_at hl 1 rfl) ?_
  refine zz_ieq (tgt := 707) hx hb dW_702 (by decide) (fun h21 => ?_) (fun h21 => ?_)
  · refine lv_iload hx hb dW_707 (lv_at hl 1 rfl) ?_
    refine zz_zne (tgt := 724) hx hb dW_709 (by decide) (fun h22 => ?_) (fun h22 => ?_)
    · refine lv_goto (tgt := 1147) hx hb dW_724 (by decide) ?_
      exact kk _ _ _ hP hD hS (lv_sub hl [2, 3, 4, 5, 6] rfl)
    · refine lv_aload_n hx hb dW_712 rfl (lv_at hl 5 rfl) ?_
      refine lv_iconst (v := 0) hx hb dW_713 (by decide) ?_
      refine zz_lald hx hb hK (zq_Pr (zq_Pr hP)) 0 0 rfl rfl 0 rfl (by decide) (by decide) dW_714 ?_
      refine lv_iload hx hb dW_715 (lv_at hl 0 rfl) ?_
      refine lv_i2l (v := Int32.toInt64 rv) hx hb dW_717 rfl ?_
      refine zz_leq (tgt := 724) hx hb dW_718 dW_719 (by decide) (fun h23 => ?_) (fun h23 => ?_)
      · refine lv_goto (tgt := 1147) hx hb dW_724 (by decide) ?_
        exact kk _ _ _ hP hD hS (lv_sub hl [2, 3, 4, 5, 6] rfl)
      · exact absurd (hout h22) h23
  · exact absurd rfl h21
set_option maxHeartbeats 4000000 in
set_option maxRecDepth 100000 in
theorem lw_offset {p : Program} {l : Launch} {e : Env} {s : State} {m : MethodId} {below : List Frame} {meth : Method} {c : Code} {b L : Nat} {xs : Nat → Int32} {A : Nat → Prop} {dC : Nat → ClassId} {dI : Nat → Nat → Nat} {cJ cI cB cZ cS : ClassId} {Q : State → Prop} (E : zl_E p s m c b L xs A dC dI cJ cI cB cZ cS)
    {H : Heap} {locs : List Loc} {cells slots i c0 mo ou fH lH fM lM : Nat} {ls : Array Slot} {CW CW1 Wc W1c Wcr M M1 : va_W} {fo fo1 : Nat → Int64} {k : Int32} {rv : Int64} {fs fs1 : List Value} (hc : cells + 1 ≤ 634533) (hs : slots + 6 ≤ 7192505) (hi : 6 * i + 6 ≤ L) {x1 : Int32} (h1 : xs (6 * i + 1) = x1)
    (hp : CW.Perm (Wc ++ Wcr)) (hq : (W1c ++ Wcr).Perm CW1) (hH : ∀ sz : Nat, vx_Met l yL_offset [Cond.codeWith yL_offset cL_offset 4 (some .int) hhL_offset] { frames := fH, cells := 1, slots := 6, locals := lH } (va_Pc [.ref c0, .int x1, .ref ou] (zy_B (dC, dI) vcl (zz_T cJ cI cB cZ cS) (Wc ++ zy_O ou cJ fo) sz)) (zq_Q (dC, dI) vcl (some (.int k)) (Wc ++ zy_O ou cJ fo) (W1c ++ zy_O ou cJ fo1) sz) zy_X 1 6 (va_A (Wc ++ zy_O ou cJ fo) sz)) (hRH : fH + 1 ≤ 12 ∧ 8 + (4 + 11) + lH ≤ 440)
    (hM : ∀ sz : Nat, Met l yM_offset [Cond.code yM_offset cM_offset 2 (some .long)] { frames := fM, cells := 0, slots := 0, locals := lM } (va_Pc [.ref mo, .int x1] (zq_B (dC, dI) vcl (zz_T cJ cI cB cZ cS) M sz)) (zq_Q (dC, dI) vcl (some (.long rv)) M M1 sz) 0 0 (va_A M sz)) (hRM : fM + 1 ≤ 12 ∧ 8 + (2 + 11) + lM ≤ 440) (hm0 : M[0]? = some (mo, .inr (4, fs))) (hm1 : M1[0]? = some (mo, .inr (4, fs1))) (hTh : Met l yM_thrown [Cond.code yM_thrown cM_thrown 1 (some .int)] { frames := 0, cells := 0, slots := 0, locals := 0 } (va_Pc [.ref mo] (zz_B (dC, dI) vcl (zz_T cJ cI cB cZ cS) M1)) (zz_Q (.int k)) 0 0 (fun _ => False))
    (hout : k = 0 → fo1 0 = rv)
    (hP : va_P (dC, dI) vcl (CW ++ (M ++ zy_O ou cJ fo)) H) (hD : va_D A (CW ++ (M ++ zy_O ou cJ fo))) (hS : va_S A s.heap H locs) (hl : lv_has ls 8 [(0, .ref b), (1, .ref c0), (2, .ref mo), (3, .ref ou), (4, .int (nI (6 * i)))])
    (kk : ∀ (H : Heap) (locs : List Loc) (ls : Array Slot), va_P (dC, dI) vcl (CW1 ++ (M1 ++ zy_O ou cJ fo1)) H → va_D A (CW1 ++ (M1 ++ zy_O ou cJ fo1)) → va_S A s.heap H locs → lv_has ls 8 [(0, .ref b), (1, .ref c0), (2, .ref mo), (3, .ref ou), (4, .int (nI (6 * i)))] → W p l e room_1 s m #[Value.ref b] below meth c H locs (cells + 1) (slots + 6) Q (F0 m 1147 ls [])) : W p l e room_1 s m #[Value.ref b] below meth c H locs cells slots Q (F0 m 727 ls []) := by
  obtain ⟨hx, hb, hml, hown, hT, hN, hC, hZ, hK, hA, hX, hbl, hbA, hL⟩ := E
  have hcs : cells + 1 ≤ room_1.cells ∧ slots + 6 ≤ room_1.slots := ⟨hc, hs⟩
  have hcs0 : (cells + 1) + 0 ≤ room_1.cells ∧ (slots + 6) + 0 ≤ room_1.slots := ⟨hc, hs⟩
  refine lv_aload_n hx hb dW_727 rfl (lv_at hl 1 rfl) ?_
  refine lv_aload_n hx hb dW_728 rfl (lv_at hl 0 rfl) ?_
  refine lv_iload hx hb dW_729 (lv_at hl 4 rfl) ?_
  refine lv_iconst (v := 1) hx hb dW_731 (by decide) ?_
  refine lv_iadd hx hb dW_732 ?_
  refine zl_sld hx hb hX hbl hbA hS hL (6 * i + 1) (nI_add _ 1) (by omega) dW_733 ?_
  refine zz_ti (y := x1) h1 ?_
  refine lv_aload_n hx hb dW_734 rfl (lv_at hl 3 rfl) ?_
  refine zl_call (zl_p1 hp) (zl_p2 hq) (zy_run (vx_runSX (Ts := []) (As := [.ref c0, .int x1, .ref ou]) (own := RL) ⟨hx, hb, hml, hown, fun _ h => nomatch h⟩ (hH H.size) (zt_ch hT th_L_offset tw_461 hRH) (zy_preS hT (zq_Pl (zq_Pp (zl_p1 hp) hP)) hK (zq_Dl (zq_Dp (zl_p1 hp) hD)) hN hC hZ hS hA) rfl rfl hl.1 rfl (lv_room (Nat.le_of_ble_eq_true rfl)) dW_735 hcs)) hP hD hS hA (fun H locs hP hD hS => ?_)
  refine W.eq (g2 := F0 m 738 ls [.int k]) rfl ?_
  refine lv_istore (lv' := [(5, .int k), (0, .ref b), (1, .ref c0), (2, .ref mo), (3, .ref ou), (4, .int (nI (6 * i)))]) hx hb dW_738 hl (by decide) rfl (fun ls hl => ?_)
  refine lv_aload_n hx hb dW_740 rfl (lv_at hl 3 rfl) ?_
  refine lv_aload_n hx hb dW_741 rfl (lv_at hl 1 rfl) ?_
  refine lv_iload hx hb dW_742 (lv_at hl 5 rfl) ?_
  refine lv_iconst (v := 1) hx hb dW_744 (by decide) ?_
  refine lv_iadd hx hb dW_745 ?_
  refine zl_sld hx hb hX hbl hbA hS hL (6 * i + 1) (nI_add _ 1) (by omega) dW_746 ?_
  refine zz_ti (y := x1) h1 ?_
  refine zq_callP zl_pm zl_pm.symm (va_runV (Ts := []) (As := [.int x1]) (own := RL) ⟨hx, hb, hml, hown, fun _ h => nomatch h⟩ (hM H.size) (zt_cv hT tc_M_offset tv_M_offset tw_751 hRM) (zq_preV (q0 := 0) hT (zq_Pl (zq_Pp zl_pm hP)) hK (zq_Dl (zq_Dp zl_pm hD)) rfl hm0) rfl rfl hl.1 rfl (lv_room (Nat.le_of_ble_eq_true rfl)) dW_747 hcs0) hP hD hS hA (fun H locs hP hD hS => ?_)
  refine W.eq (g2 := F0 m 750 ls [.long rv]) rfl ?_
  refine lv_lstore (lv' := [(6, .long rv), (5, .int k), (0, .ref b), (1, .ref c0), (2, .ref mo), (3, .ref ou), (4, .int (nI (6 * i)))]) hx hb dW_750 hl (by decide) rfl (fun ls hl => ?_)
  refine lv_aload_n hx hb dW_752 rfl (lv_at hl 4 rfl) ?_
  refine zz_call (va_runV (Ts := []) (As := []) (own := RL) ⟨hx, hb, hml, hown, fun _ h => nomatch h⟩ hTh (zt_cv hT tc_M_thrown tv_M_thrown tw_680 ⟨Nat.le_of_ble_eq_true rfl, Nat.le_of_ble_eq_true rfl⟩) (zz_preV (q0 := 0) hT (zq_Pl (zq_Pr hP)) hK rfl hm1) rfl rfl hl.1 rfl (lv_room (Nat.le_of_ble_eq_true rfl)) dW_753 hcs0) ?_
  refine lv_iload hx hb dW_756 (lv_at hl 1 rfl) ?_
  refine zz_ieq (tgt := 763) hx hb dW_758 (by decide) (fun h21 => ?_) (fun h21 => ?_)
  · refine lv_iload hx hb dW_763 (lv_at hl 1 rfl) ?_
    refine zz_zne (tgt := 779) hx hb dW_765 (by decide) (fun h22 => ?_) (fun h22 => ?_)
    · refine lv_goto (tgt := 1147) hx hb dW_779 (by decide) ?_
      exact kk _ _ _ hP hD hS (lv_sub hl [2, 3, 4, 5, 6] rfl)
    · refine lv_aload_n hx hb dW_768 rfl (lv_at hl 5 rfl) ?_
      refine lv_iconst (v := 0) hx hb dW_769 (by decide) ?_
      refine zz_lald hx hb hK (zq_Pr (zq_Pr hP)) 0 0 rfl rfl 0 rfl (by decide) (by decide) dW_770 ?_
      refine lv_lload hx hb dW_771 (lv_at hl 0 rfl) ?_
      refine zz_leq (tgt := 779) hx hb dW_773 dW_774 (by decide) (fun h23 => ?_) (fun h23 => ?_)
      · refine lv_goto (tgt := 1147) hx hb dW_779 (by decide) ?_
        exact kk _ _ _ hP hD hS (lv_sub hl [2, 3, 4, 5, 6] rfl)
      · exact absurd (hout h22) h23
  · exact absurd rfl h21
set_option maxHeartbeats 4000000 in
set_option maxRecDepth 100000 in
theorem lw_delay {p : Program} {l : Launch} {e : Env} {s : State} {m : MethodId} {below : List Frame} {meth : Method} {c : Code} {b L : Nat} {xs : Nat → Int32} {A : Nat → Prop} {dC : Nat → ClassId} {dI : Nat → Nat → Nat} {cJ cI cB cZ cS : ClassId} {Q : State → Prop} (E : zl_E p s m c b L xs A dC dI cJ cI cB cZ cS)
    {H : Heap} {locs : List Loc} {cells slots i c0 mo ou fH lH fM lM : Nat} {ls : Array Slot} {CW CW1 Wc W1c Wcr M M1 : va_W} {fo fo1 : Nat → Int64} {k : Int32} {rv : Int64} {fs fs1 : List Value} (hc : cells + 1 ≤ 634533) (hs : slots + 6 ≤ 7192505) (hi : 6 * i + 6 ≤ L) {x1 : Int32} (h1 : xs (6 * i + 1) = x1)
    (hp : CW.Perm (Wc ++ Wcr)) (hq : (W1c ++ Wcr).Perm CW1) (hH : ∀ sz : Nat, vx_Met l yL_delay [Cond.codeWith yL_delay cL_delay 4 (some .int) hhL_delay] { frames := fH, cells := 1, slots := 6, locals := lH } (va_Pc [.ref c0, .int x1, .ref ou] (zy_B (dC, dI) vcl (zz_T cJ cI cB cZ cS) (Wc ++ zy_O ou cJ fo) sz)) (zq_Q (dC, dI) vcl (some (.int k)) (Wc ++ zy_O ou cJ fo) (W1c ++ zy_O ou cJ fo1) sz) zy_X 1 6 (va_A (Wc ++ zy_O ou cJ fo) sz)) (hRH : fH + 1 ≤ 12 ∧ 8 + (4 + 11) + lH ≤ 440)
    (hM : ∀ sz : Nat, Met l yM_delay [Cond.code yM_delay cM_delay 2 (some .long)] { frames := fM, cells := 0, slots := 0, locals := lM } (va_Pc [.ref mo, .int x1] (zq_B (dC, dI) vcl (zz_T cJ cI cB cZ cS) M sz)) (zq_Q (dC, dI) vcl (some (.long rv)) M M1 sz) 0 0 (va_A M sz)) (hRM : fM + 1 ≤ 12 ∧ 8 + (2 + 11) + lM ≤ 440) (hm0 : M[0]? = some (mo, .inr (4, fs))) (hm1 : M1[0]? = some (mo, .inr (4, fs1))) (hTh : Met l yM_thrown [Cond.code yM_thrown cM_thrown 1 (some .int)] { frames := 0, cells := 0, slots := 0, locals := 0 } (va_Pc [.ref mo] (zz_B (dC, dI) vcl (zz_T cJ cI cB cZ cS) M1)) (zz_Q (.int k)) 0 0 (fun _ => False))
    (hout : k = 0 → fo1 0 = rv)
    (hP : va_P (dC, dI) vcl (CW ++ (M ++ zy_O ou cJ fo)) H) (hD : va_D A (CW ++ (M ++ zy_O ou cJ fo))) (hS : va_S A s.heap H locs) (hl : lv_has ls 8 [(0, .ref b), (1, .ref c0), (2, .ref mo), (3, .ref ou), (4, .int (nI (6 * i)))])
    (kk : ∀ (H : Heap) (locs : List Loc) (ls : Array Slot), va_P (dC, dI) vcl (CW1 ++ (M1 ++ zy_O ou cJ fo1)) H → va_D A (CW1 ++ (M1 ++ zy_O ou cJ fo1)) → va_S A s.heap H locs → lv_has ls 8 [(0, .ref b), (1, .ref c0), (2, .ref mo), (3, .ref ou), (4, .int (nI (6 * i)))] → W p l e room_1 s m #[Value.ref b] below meth c H locs (cells + 1) (slots + 6) Q (F0 m 1147 ls [])) : W p l e room_1 s m #[Value.ref b] below meth c H locs cells slots Q (F0 m 782 ls []) := by
  obtain ⟨hx, hb, hml, hown, hT, hN, hC, hZ, hK, hA, hX, hbl, hbA, hL⟩ := E
  have hcs : cells + 1 ≤ room_1.cells ∧ slots + 6 ≤ room_1.slots := ⟨hc, hs⟩
  have hcs0 : (cells + 1) + 0 ≤ room_1.cells ∧ (slots + 6) + 0 ≤ room_1.slots := ⟨hc, hs⟩
  refine lv_aload_n hx hb dW_782 rfl (lv_at hl 1 rfl) ?_
  refine lv_aload_n hx hb dW_783 rfl (lv_at hl 0 rfl) ?_
  refine lv_iload hx hb dW_784 (lv_at hl 4 rfl) ?_
  refine lv_iconst (v := 1) hx hb dW_786 (by decide) ?_
  refine lv_iadd hx hb dW_787 ?_
  refine zl_sld hx hb hX hbl hbA hS hL (6 * i + 1) (nI_add _ 1) (by omega) dW_788 ?_
  refine zz_ti (y := x1) h1 ?_
  refine lv_aload_n hx hb dW_789 rfl (lv_at hl 3 rfl) ?_
  refine zl_call (zl_p1 hp) (zl_p2 hq) (zy_run (vx_runSX (Ts := []) (As := [.ref c0, .int x1, .ref ou]) (own := RL) ⟨hx, hb, hml, hown, fun _ h => nomatch h⟩ (hH H.size) (zt_ch hT th_L_delay tw_489 hRH) (zy_preS hT (zq_Pl (zq_Pp (zl_p1 hp) hP)) hK (zq_Dl (zq_Dp (zl_p1 hp) hD)) hN hC hZ hS hA) rfl rfl hl.1 rfl (lv_room (Nat.le_of_ble_eq_true rfl)) dW_790 hcs)) hP hD hS hA (fun H locs hP hD hS => ?_)
  refine W.eq (g2 := F0 m 793 ls [.int k]) rfl ?_
  refine lv_istore (lv' := [(5, .int k), (0, .ref b), (1, .ref c0), (2, .ref mo), (3, .ref ou), (4, .int (nI (6 * i)))]) hx hb dW_793 hl (by decide) rfl (fun ls hl => ?_)
  refine lv_aload_n hx hb dW_795 rfl (lv_at hl 3 rfl) ?_
  refine lv_aload_n hx hb dW_796 rfl (lv_at hl 1 rfl) ?_
  refine lv_iload hx hb dW_797 (lv_at hl 5 rfl) ?_
  refine lv_iconst (v := 1) hx hb dW_799 (by decide) ?_
  refine lv_iadd hx hb dW_800 ?_
  refine zl_sld hx hb hX hbl hbA hS hL (6 * i + 1) (nI_add _ 1) (by omega) dW_801 ?_
  refine zz_ti (y := x1) h1 ?_
  refine zq_callP zl_pm zl_pm.symm (va_runV (Ts := []) (As := [.int x1]) (own := RL) ⟨hx, hb, hml, hown, fun _ h => nomatch h⟩ (hM H.size) (zt_cv hT tc_M_delay tv_M_delay tw_772 hRM) (zq_preV (q0 := 0) hT (zq_Pl (zq_Pp zl_pm hP)) hK (zq_Dl (zq_Dp zl_pm hD)) rfl hm0) rfl rfl hl.1 rfl (lv_room (Nat.le_of_ble_eq_true rfl)) dW_802 hcs0) hP hD hS hA (fun H locs hP hD hS => ?_)
  refine W.eq (g2 := F0 m 805 ls [.long rv]) rfl ?_
  refine lv_lstore (lv' := [(6, .long rv), (5, .int k), (0, .ref b), (1, .ref c0), (2, .ref mo), (3, .ref ou), (4, .int (nI (6 * i)))]) hx hb dW_805 hl (by decide) rfl (fun ls hl => ?_)
  refine lv_aload_n hx hb dW_807 rfl (lv_at hl 4 rfl) ?_
  refine zz_call (va_runV (Ts := []) (As := []) (own := RL) ⟨hx, hb, hml, hown, fun _ h => nomatch h⟩ hTh (zt_cv hT tc_M_thrown tv_M_thrown tw_680 ⟨Nat.le_of_ble_eq_true rfl, Nat.le_of_ble_eq_true rfl⟩) (zz_preV (q0 := 0) hT (zq_Pl (zq_Pr hP)) hK rfl hm1) rfl rfl hl.1 rfl (lv_room (Nat.le_of_ble_eq_true rfl)) dW_808 hcs0) ?_
  refine lv_iload hx hb dW_811 (lv_at hl 1 rfl) ?_
  refine zz_ieq (tgt := 818) hx hb dW_813 (by decide) (fun h21 => ?_) (fun h21 => ?_)
  · refine lv_iload hx hb dW_818 (lv_at hl 1 rfl) ?_
    refine zz_zne (tgt := 834) hx hb dW_820 (by decide) (fun h22 => ?_) (fun h22 => ?_)
    · refine lv_goto (tgt := 1147) hx hb dW_834 (by decide) ?_
      exact kk _ _ _ hP hD hS (lv_sub hl [2, 3, 4, 5, 6] rfl)
    · refine lv_aload_n hx hb dW_823 rfl (lv_at hl 5 rfl) ?_
      refine lv_iconst (v := 0) hx hb dW_824 (by decide) ?_
      refine zz_lald hx hb hK (zq_Pr (zq_Pr hP)) 0 0 rfl rfl 0 rfl (by decide) (by decide) dW_825 ?_
      refine lv_lload hx hb dW_826 (lv_at hl 0 rfl) ?_
      refine zz_leq (tgt := 834) hx hb dW_828 dW_829 (by decide) (fun h23 => ?_) (fun h23 => ?_)
      · refine lv_goto (tgt := 1147) hx hb dW_834 (by decide) ?_
        exact kk _ _ _ hP hD hS (lv_sub hl [2, 3, 4, 5, 6] rfl)
      · exact absurd (hout h22) h23
  · exact absurd rfl h21
set_option maxHeartbeats 4000000 in
set_option maxRecDepth 100000 in
theorem lw_jitter {p : Program} {l : Launch} {e : Env} {s : State} {m : MethodId} {below : List Frame} {meth : Method} {c : Code} {b L : Nat} {xs : Nat → Int32} {A : Nat → Prop} {dC : Nat → ClassId} {dI : Nat → Nat → Nat} {cJ cI cB cZ cS : ClassId} {Q : State → Prop} (E : zl_E p s m c b L xs A dC dI cJ cI cB cZ cS)
    {H : Heap} {locs : List Loc} {cells slots i c0 mo ou fH lH fM lM : Nat} {ls : Array Slot} {CW CW1 Wc W1c Wcr M M1 : va_W} {fo fo1 : Nat → Int64} {k : Int32} {rv : Int64} {fs fs1 : List Value} (hc : cells + 1 ≤ 634533) (hs : slots + 6 ≤ 7192505) (hi : 6 * i + 6 ≤ L) {x1 : Int32} (h1 : xs (6 * i + 1) = x1)
    (hp : CW.Perm (Wc ++ Wcr)) (hq : (W1c ++ Wcr).Perm CW1) (hH : ∀ sz : Nat, vx_Met l yL_jitter [Cond.codeWith yL_jitter cL_jitter 4 (some .int) hhL_jitter] { frames := fH, cells := 1, slots := 6, locals := lH } (va_Pc [.ref c0, .int x1, .ref ou] (zy_B (dC, dI) vcl (zz_T cJ cI cB cZ cS) (Wc ++ zy_O ou cJ fo) sz)) (zq_Q (dC, dI) vcl (some (.int k)) (Wc ++ zy_O ou cJ fo) (W1c ++ zy_O ou cJ fo1) sz) zy_X 1 6 (va_A (Wc ++ zy_O ou cJ fo) sz)) (hRH : fH + 1 ≤ 12 ∧ 8 + (4 + 11) + lH ≤ 440)
    (hM : ∀ sz : Nat, Met l yM_jitter [Cond.code yM_jitter cM_jitter 2 (some .long)] { frames := fM, cells := 0, slots := 0, locals := lM } (va_Pc [.ref mo, .int x1] (zq_B (dC, dI) vcl (zz_T cJ cI cB cZ cS) M sz)) (zq_Q (dC, dI) vcl (some (.long rv)) M M1 sz) 0 0 (va_A M sz)) (hRM : fM + 1 ≤ 12 ∧ 8 + (2 + 11) + lM ≤ 440) (hm0 : M[0]? = some (mo, .inr (4, fs))) (hm1 : M1[0]? = some (mo, .inr (4, fs1))) (hTh : Met l yM_thrown [Cond.code yM_thrown cM_thrown 1 (some .int)] { frames := 0, cells := 0, slots := 0, locals := 0 } (va_Pc [.ref mo] (zz_B (dC, dI) vcl (zz_T cJ cI cB cZ cS) M1)) (zz_Q (.int k)) 0 0 (fun _ => False))
    (hout : k = 0 → fo1 0 = rv)
    (hP : va_P (dC, dI) vcl (CW ++ (M ++ zy_O ou cJ fo)) H) (hD : va_D A (CW ++ (M ++ zy_O ou cJ fo))) (hS : va_S A s.heap H locs) (hl : lv_has ls 8 [(0, .ref b), (1, .ref c0), (2, .ref mo), (3, .ref ou), (4, .int (nI (6 * i)))])
    (kk : ∀ (H : Heap) (locs : List Loc) (ls : Array Slot), va_P (dC, dI) vcl (CW1 ++ (M1 ++ zy_O ou cJ fo1)) H → va_D A (CW1 ++ (M1 ++ zy_O ou cJ fo1)) → va_S A s.heap H locs → lv_has ls 8 [(0, .ref b), (1, .ref c0), (2, .ref mo), (3, .ref ou), (4, .int (nI (6 * i)))] → W p l e room_1 s m #[Value.ref b] below meth c H locs (cells + 1) (slots + 6) Q (F0 m 1147 ls [])) : W p l e room_1 s m #[Value.ref b] below meth c H locs cells slots Q (F0 m 837 ls []) := by
  obtain ⟨hx, hb, hml, hown, hT, hN, hC, hZ, hK, hA, hX, hbl, hbA, hL⟩ := E
  have hcs : cells + 1 ≤ room_1.cells ∧ slots + 6 ≤ room_1.slots := ⟨hc, hs⟩
  have hcs0 : (cells + 1) + 0 ≤ room_1.cells ∧ (slots + 6) + 0 ≤ room_1.slots := ⟨hc, hs⟩
  refine lv_aload_n hx hb dW_837 rfl (lv_at hl 1 rfl) ?_
  refine lv_aload_n hx hb dW_838 rfl (lv_at hl 0 rfl) ?_
  refine lv_iload hx hb dW_839 (lv_at hl 4 rfl) ?_
  refine lv_iconst (v := 1) hx hb dW_841 (by decide) ?_
  refine lv_iadd hx hb dW_842 ?_
  refine zl_sld hx hb hX hbl hbA hS hL (6 * i + 1) (nI_add _ 1) (by omega) dW_843 ?_
  refine zz_ti (y := x1) h1 ?_
  refine lv_aload_n hx hb dW_844 rfl (lv_at hl 3 rfl) ?_
  refine zl_call (zl_p1 hp) (zl_p2 hq) (zy_run (vx_runSX (Ts := []) (As := [.ref c0, .int x1, .ref ou]) (own := RL) ⟨hx, hb, hml, hown, fun _ h => nomatch h⟩ (hH H.size) (zt_ch hT th_L_jitter tw_500 hRH) (zy_preS hT (zq_Pl (zq_Pp (zl_p1 hp) hP)) hK (zq_Dl (zq_Dp (zl_p1 hp) hD)) hN hC hZ hS hA) rfl rfl hl.1 rfl (lv_room (Nat.le_of_ble_eq_true rfl)) dW_845 hcs)) hP hD hS hA (fun H locs hP hD hS => ?_)
  refine W.eq (g2 := F0 m 848 ls [.int k]) rfl ?_
  refine lv_istore (lv' := [(5, .int k), (0, .ref b), (1, .ref c0), (2, .ref mo), (3, .ref ou), (4, .int (nI (6 * i)))]) hx hb dW_848 hl (by decide) rfl (fun ls hl => ?_)
  refine lv_aload_n hx hb dW_850 rfl (lv_at hl 3 rfl) ?_
  refine lv_aload_n hx hb dW_851 rfl (lv_at hl 1 rfl) ?_
  refine lv_iload hx hb dW_852 (lv_at hl 5 rfl) ?_
  refine lv_iconst (v := 1) hx hb dW_854 (by decide) ?_
  refine lv_iadd hx hb dW_855 ?_
  refine zl_sld hx hb hX hbl hbA hS hL (6 * i + 1) (nI_add _ 1) (by omega) dW_856 ?_
  refine zz_ti (y := x1) h1 ?_
  refine zq_callP zl_pm zl_pm.symm (va_runV (Ts := []) (As := [.int x1]) (own := RL) ⟨hx, hb, hml, hown, fun _ h => nomatch h⟩ (hM H.size) (zt_cv hT tc_M_jitter tv_M_jitter tw_776 hRM) (zq_preV (q0 := 0) hT (zq_Pl (zq_Pp zl_pm hP)) hK (zq_Dl (zq_Dp zl_pm hD)) rfl hm0) rfl rfl hl.1 rfl (lv_room (Nat.le_of_ble_eq_true rfl)) dW_857 hcs0) hP hD hS hA (fun H locs hP hD hS => ?_)
  refine W.eq (g2 := F0 m 860 ls [.long rv]) rfl ?_
  refine lv_lstore (lv' := [(6, .long rv), (5, .int k), (0, .ref b), (1, .ref c0), (2, .ref mo), (3, .ref ou), (4, .int (nI (6 * i)))]) hx hb dW_860 hl (by decide) rfl (fun ls hl => ?_)
  refine lv_aload_n hx hb dW_862 rfl (lv_at hl 4 rfl) ?_
  refine zz_call (va_runV (Ts := []) (As := []) (own := RL) ⟨hx, hb, hml, hown, fun _ h => nomatch h⟩ hTh (zt_cv hT tc_M_thrown tv_M_thrown tw_680 ⟨Nat.le_of_ble_eq_true rfl, Nat.le_of_ble_eq_true rfl⟩) (zz_preV (q0 := 0) hT (zq_Pl (zq_Pr hP)) hK rfl hm1) rfl rfl hl.1 rfl (lv_room (Nat.le_of_ble_eq_true rfl)) dW_863 hcs0) ?_
  refine lv_iload hx hb dW_866 (lv_at hl 1 rfl) ?_
  refine zz_ieq (tgt := 873) hx hb dW_868 (by decide) (fun h21 => ?_) (fun h21 => ?_)
  · refine lv_iload hx hb dW_873 (lv_at hl 1 rfl) ?_
    refine zz_zne (tgt := 889) hx hb dW_875 (by decide) (fun h22 => ?_) (fun h22 => ?_)
    · refine lv_goto (tgt := 1147) hx hb dW_889 (by decide) ?_
      exact kk _ _ _ hP hD hS (lv_sub hl [2, 3, 4, 5, 6] rfl)
    · refine lv_aload_n hx hb dW_878 rfl (lv_at hl 5 rfl) ?_
      refine lv_iconst (v := 0) hx hb dW_879 (by decide) ?_
      refine zz_lald hx hb hK (zq_Pr (zq_Pr hP)) 0 0 rfl rfl 0 rfl (by decide) (by decide) dW_880 ?_
      refine lv_lload hx hb dW_881 (lv_at hl 0 rfl) ?_
      refine zz_leq (tgt := 889) hx hb dW_883 dW_884 (by decide) (fun h23 => ?_) (fun h23 => ?_)
      · refine lv_goto (tgt := 1147) hx hb dW_889 (by decide) ?_
        exact kk _ _ _ hP hD hS (lv_sub hl [2, 3, 4, 5, 6] rfl)
      · exact absurd (hout h22) h23
  · exact absurd rfl h21
set_option maxHeartbeats 4000000 in
set_option maxRecDepth 100000 in
theorem lw_distance {p : Program} {l : Launch} {e : Env} {s : State} {m : MethodId} {below : List Frame} {meth : Method} {c : Code} {b L : Nat} {xs : Nat → Int32} {A : Nat → Prop} {dC : Nat → ClassId} {dI : Nat → Nat → Nat} {cJ cI cB cZ cS : ClassId} {Q : State → Prop} (E : zl_E p s m c b L xs A dC dI cJ cI cB cZ cS)
    {H : Heap} {locs : List Loc} {cells slots i c0 mo ou fH lH fM lM : Nat} {ls : Array Slot} {CW CW1 Wc W1c Wcr M M1 : va_W} {fo fo1 : Nat → Int64} {k : Int32} {rv : Int64} {fs fs1 : List Value} (hc : cells + 1 ≤ 634533) (hs : slots + 6 ≤ 7192505) (hi : 6 * i + 6 ≤ L) {x1 : Int32} (h1 : xs (6 * i + 1) = x1)
    (hp : CW.Perm (Wc ++ Wcr)) (hq : (W1c ++ Wcr).Perm CW1) (hH : ∀ sz : Nat, vx_Met l yL_distance [Cond.codeWith yL_distance cL_distance 4 (some .int) hhL_distance] { frames := fH, cells := 1, slots := 6, locals := lH } (va_Pc [.ref c0, .int x1, .ref ou] (zy_B (dC, dI) vcl (zz_T cJ cI cB cZ cS) (Wc ++ zy_O ou cJ fo) sz)) (zq_Q (dC, dI) vcl (some (.int k)) (Wc ++ zy_O ou cJ fo) (W1c ++ zy_O ou cJ fo1) sz) zy_X 1 6 (va_A (Wc ++ zy_O ou cJ fo) sz)) (hRH : fH + 1 ≤ 12 ∧ 8 + (4 + 11) + lH ≤ 440)
    (hM : ∀ sz : Nat, Met l yM_distance [Cond.code yM_distance cM_distance 2 (some .long)] { frames := fM, cells := 0, slots := 0, locals := lM } (va_Pc [.ref mo, .int x1] (zq_B (dC, dI) vcl (zz_T cJ cI cB cZ cS) M sz)) (zq_Q (dC, dI) vcl (some (.long rv)) M M1 sz) 0 0 (va_A M sz)) (hRM : fM + 1 ≤ 12 ∧ 8 + (2 + 11) + lM ≤ 440) (hm0 : M[0]? = some (mo, .inr (4, fs))) (hm1 : M1[0]? = some (mo, .inr (4, fs1))) (hTh : Met l yM_thrown [Cond.code yM_thrown cM_thrown 1 (some .int)] { frames := 0, cells := 0, slots := 0, locals := 0 } (va_Pc [.ref mo] (zz_B (dC, dI) vcl (zz_T cJ cI cB cZ cS) M1)) (zz_Q (.int k)) 0 0 (fun _ => False))
    (hout : k = 0 → fo1 0 = rv)
    (hP : va_P (dC, dI) vcl (CW ++ (M ++ zy_O ou cJ fo)) H) (hD : va_D A (CW ++ (M ++ zy_O ou cJ fo))) (hS : va_S A s.heap H locs) (hl : lv_has ls 8 [(0, .ref b), (1, .ref c0), (2, .ref mo), (3, .ref ou), (4, .int (nI (6 * i)))])
    (kk : ∀ (H : Heap) (locs : List Loc) (ls : Array Slot), va_P (dC, dI) vcl (CW1 ++ (M1 ++ zy_O ou cJ fo1)) H → va_D A (CW1 ++ (M1 ++ zy_O ou cJ fo1)) → va_S A s.heap H locs → lv_has ls 8 [(0, .ref b), (1, .ref c0), (2, .ref mo), (3, .ref ou), (4, .int (nI (6 * i)))] → W p l e room_1 s m #[Value.ref b] below meth c H locs (cells + 1) (slots + 6) Q (F0 m 1147 ls [])) : W p l e room_1 s m #[Value.ref b] below meth c H locs cells slots Q (F0 m 892 ls []) := by
  obtain ⟨hx, hb, hml, hown, hT, hN, hC, hZ, hK, hA, hX, hbl, hbA, hL⟩ := E
  have hcs : cells + 1 ≤ room_1.cells ∧ slots + 6 ≤ room_1.slots := ⟨hc, hs⟩
  have hcs0 : (cells + 1) + 0 ≤ room_1.cells ∧ (slots + 6) + 0 ≤ room_1.slots := ⟨hc, hs⟩
  refine lv_aload_n hx hb dW_892 rfl (lv_at hl 1 rfl) ?_
  refine lv_aload_n hx hb dW_893 rfl (lv_at hl 0 rfl) ?_
  refine lv_iload hx hb dW_894 (lv_at hl 4 rfl) ?_
  refine lv_iconst (v := 1) hx hb dW_896 (by decide) ?_
  refine lv_iadd hx hb dW_897 ?_
  refine zl_sld hx hb hX hbl hbA hS hL (6 * i + 1) (nI_add _ 1) (by omega) dW_898 ?_
  refine zz_ti (y := x1) h1 ?_
  refine lv_aload_n hx hb dW_899 rfl (lv_at hl 3 rfl) ?_
  refine zl_call (zl_p1 hp) (zl_p2 hq) (zy_run (vx_runSX (Ts := []) (As := [.ref c0, .int x1, .ref ou]) (own := RL) ⟨hx, hb, hml, hown, fun _ h => nomatch h⟩ (hH H.size) (zt_ch hT th_L_distance tw_511 hRH) (zy_preS hT (zq_Pl (zq_Pp (zl_p1 hp) hP)) hK (zq_Dl (zq_Dp (zl_p1 hp) hD)) hN hC hZ hS hA) rfl rfl hl.1 rfl (lv_room (Nat.le_of_ble_eq_true rfl)) dW_900 hcs)) hP hD hS hA (fun H locs hP hD hS => ?_)
  refine W.eq (g2 := F0 m 903 ls [.int k]) rfl ?_
  refine lv_istore (lv' := [(5, .int k), (0, .ref b), (1, .ref c0), (2, .ref mo), (3, .ref ou), (4, .int (nI (6 * i)))]) hx hb dW_903 hl (by decide) rfl (fun ls hl => ?_)
  refine lv_aload_n hx hb dW_905 rfl (lv_at hl 3 rfl) ?_
  refine lv_aload_n hx hb dW_906 rfl (lv_at hl 1 rfl) ?_
  refine lv_iload hx hb dW_907 (lv_at hl 5 rfl) ?_
  refine lv_iconst (v := 1) hx hb dW_909 (by decide) ?_
  refine lv_iadd hx hb dW_910 ?_
  refine zl_sld hx hb hX hbl hbA hS hL (6 * i + 1) (nI_add _ 1) (by omega) dW_911 ?_
  refine zz_ti (y := x1) h1 ?_
  refine zq_callP zl_pm zl_pm.symm (va_runV (Ts := []) (As := [.int x1]) (own := RL) ⟨hx, hb, hml, hown, fun _ h => nomatch h⟩ (hM H.size) (zt_cv hT tc_M_distance tv_M_distance tw_787 hRM) (zq_preV (q0 := 0) hT (zq_Pl (zq_Pp zl_pm hP)) hK (zq_Dl (zq_Dp zl_pm hD)) rfl hm0) rfl rfl hl.1 rfl (lv_room (Nat.le_of_ble_eq_true rfl)) dW_912 hcs0) hP hD hS hA (fun H locs hP hD hS => ?_)
  refine W.eq (g2 := F0 m 915 ls [.long rv]) rfl ?_
  refine lv_lstore (lv' := [(6, .long rv), (5, .int k), (0, .ref b), (1, .ref c0), (2, .ref mo), (3, .ref ou), (4, .int (nI (6 * i)))]) hx hb dW_915 hl (by decide) rfl (fun ls hl => ?_)
  refine lv_aload_n hx hb dW_917 rfl (lv_at hl 4 rfl) ?_
  refine zz_call (va_runV (Ts := []) (As := []) (own := RL) ⟨hx, hb, hml, hown, fun _ h => nomatch h⟩ hTh (zt_cv hT tc_M_thrown tv_M_thrown tw_680 ⟨Nat.le_of_ble_eq_true rfl, Nat.le_of_ble_eq_true rfl⟩) (zz_preV (q0 := 0) hT (zq_Pl (zq_Pr hP)) hK rfl hm1) rfl rfl hl.1 rfl (lv_room (Nat.le_of_ble_eq_true rfl)) dW_918 hcs0) ?_
  refine lv_iload hx hb dW_921 (lv_at hl 1 rfl) ?_
  refine zz_ieq (tgt := 928) hx hb dW_923 (by decide) (fun h21 => ?_) (fun h21 => ?_)
  · refine lv_iload hx hb dW_928 (lv_at hl 1 rfl) ?_
    refine zz_zne (tgt := 944) hx hb dW_930 (by decide) (fun h22 => ?_) (fun h22 => ?_)
    · refine lv_goto (tgt := 1147) hx hb dW_944 (by decide) ?_
      exact kk _ _ _ hP hD hS (lv_sub hl [2, 3, 4, 5, 6] rfl)
    · refine lv_aload_n hx hb dW_933 rfl (lv_at hl 5 rfl) ?_
      refine lv_iconst (v := 0) hx hb dW_934 (by decide) ?_
      refine zz_lald hx hb hK (zq_Pr (zq_Pr hP)) 0 0 rfl rfl 0 rfl (by decide) (by decide) dW_935 ?_
      refine lv_lload hx hb dW_936 (lv_at hl 0 rfl) ?_
      refine zz_leq (tgt := 944) hx hb dW_938 dW_939 (by decide) (fun h23 => ?_) (fun h23 => ?_)
      · refine lv_goto (tgt := 1147) hx hb dW_944 (by decide) ?_
        exact kk _ _ _ hP hD hS (lv_sub hl [2, 3, 4, 5, 6] rfl)
      · exact absurd (hout h22) h23
  · exact absurd rfl h21
set_option maxHeartbeats 4000000 in
set_option maxRecDepth 100000 in
theorem lw_low {p : Program} {l : Launch} {e : Env} {s : State} {m : MethodId} {below : List Frame} {meth : Method} {c : Code} {b L : Nat} {xs : Nat → Int32} {A : Nat → Prop} {dC : Nat → ClassId} {dI : Nat → Nat → Nat} {cJ cI cB cZ cS : ClassId} {Q : State → Prop} (E : zl_E p s m c b L xs A dC dI cJ cI cB cZ cS)
    {H : Heap} {locs : List Loc} {cells slots i c0 mo ou fH lH fM lM : Nat} {ls : Array Slot} {CW CW1 Wc W1c Wcr M M1 : va_W} {fo fo1 : Nat → Int64} {k : Int32} {rv : Int64} {fs fs1 : List Value} (hc : cells + 1 ≤ 634533) (hs : slots + 6 ≤ 7192505) (hi : 6 * i + 6 ≤ L)
    (hp : CW.Perm (Wc ++ Wcr)) (hq : (W1c ++ Wcr).Perm CW1) (hH : ∀ sz : Nat, vx_Met l yL_low [Cond.codeWith yL_low cL_low 3 (some .int) hhL_low] { frames := fH, cells := 1, slots := 6, locals := lH } (va_Pc [.ref c0, .ref ou] (zy_B (dC, dI) vcl (zz_T cJ cI cB cZ cS) (Wc ++ zy_O ou cJ fo) sz)) (zq_Q (dC, dI) vcl (some (.int k)) (Wc ++ zy_O ou cJ fo) (W1c ++ zy_O ou cJ fo1) sz) zy_X 1 6 (va_A (Wc ++ zy_O ou cJ fo) sz)) (hRH : fH + 1 ≤ 12 ∧ 8 + (3 + 11) + lH ≤ 440)
    (hM : ∀ sz : Nat, Met l yM_low [Cond.code yM_low cM_low 1 (some .long)] { frames := fM, cells := 0, slots := 0, locals := lM } (va_Pc [.ref mo] (zq_B (dC, dI) vcl (zz_T cJ cI cB cZ cS) M sz)) (zq_Q (dC, dI) vcl (some (.long rv)) M M1 sz) 0 0 (va_A M sz)) (hRM : fM + 1 ≤ 12 ∧ 8 + (1 + 11) + lM ≤ 440) (hm0 : M[0]? = some (mo, .inr (4, fs))) (hm1 : M1[0]? = some (mo, .inr (4, fs1))) (hTh : Met l yM_thrown [Cond.code yM_thrown cM_thrown 1 (some .int)] { frames := 0, cells := 0, slots := 0, locals := 0 } (va_Pc [.ref mo] (zz_B (dC, dI) vcl (zz_T cJ cI cB cZ cS) M1)) (zz_Q (.int k)) 0 0 (fun _ => False))
    (hout : k = 0 → fo1 0 = rv)
    (hP : va_P (dC, dI) vcl (CW ++ (M ++ zy_O ou cJ fo)) H) (hD : va_D A (CW ++ (M ++ zy_O ou cJ fo))) (hS : va_S A s.heap H locs) (hl : lv_has ls 8 [(0, .ref b), (1, .ref c0), (2, .ref mo), (3, .ref ou), (4, .int (nI (6 * i)))])
    (kk : ∀ (H : Heap) (locs : List Loc) (ls : Array Slot), va_P (dC, dI) vcl (CW1 ++ (M1 ++ zy_O ou cJ fo1)) H → va_D A (CW1 ++ (M1 ++ zy_O ou cJ fo1)) → va_S A s.heap H locs → lv_has ls 8 [(0, .ref b), (1, .ref c0), (2, .ref mo), (3, .ref ou), (4, .int (nI (6 * i)))] → W p l e room_1 s m #[Value.ref b] below meth c H locs (cells + 1) (slots + 6) Q (F0 m 1147 ls [])) : W p l e room_1 s m #[Value.ref b] below meth c H locs cells slots Q (F0 m 960 ls []) := by
  obtain ⟨hx, hb, hml, hown, hT, hN, hC, hZ, hK, hA, hX, hbl, hbA, hL⟩ := E
  have hcs : cells + 1 ≤ room_1.cells ∧ slots + 6 ≤ room_1.slots := ⟨hc, hs⟩
  have hcs0 : (cells + 1) + 0 ≤ room_1.cells ∧ (slots + 6) + 0 ≤ room_1.slots := ⟨hc, hs⟩
  refine lv_aload_n hx hb dW_960 rfl (lv_at hl 1 rfl) ?_
  refine lv_aload_n hx hb dW_961 rfl (lv_at hl 3 rfl) ?_
  refine zl_call (zl_p1 hp) (zl_p2 hq) (zy_run (vx_runSX (Ts := []) (As := [.ref c0, .ref ou]) (own := RL) ⟨hx, hb, hml, hown, fun _ h => nomatch h⟩ (hH H.size) (zt_ch hT th_L_low tw_519 hRH) (zy_preS hT (zq_Pl (zq_Pp (zl_p1 hp) hP)) hK (zq_Dl (zq_Dp (zl_p1 hp) hD)) hN hC hZ hS hA) rfl rfl hl.1 rfl (lv_room (Nat.le_of_ble_eq_true rfl)) dW_962 hcs)) hP hD hS hA (fun H locs hP hD hS => ?_)
  refine W.eq (g2 := F0 m 965 ls [.int k]) rfl ?_
  refine lv_istore (lv' := [(5, .int k), (0, .ref b), (1, .ref c0), (2, .ref mo), (3, .ref ou), (4, .int (nI (6 * i)))]) hx hb dW_965 hl (by decide) rfl (fun ls hl => ?_)
  refine lv_aload_n hx hb dW_967 rfl (lv_at hl 3 rfl) ?_
  refine zq_callP zl_pm zl_pm.symm (va_runV (Ts := []) (As := []) (own := RL) ⟨hx, hb, hml, hown, fun _ h => nomatch h⟩ (hM H.size) (zt_cv hT tc_M_low tv_M_low tw_804 hRM) (zq_preV (q0 := 0) hT (zq_Pl (zq_Pp zl_pm hP)) hK (zq_Dl (zq_Dp zl_pm hD)) rfl hm0) rfl rfl hl.1 rfl (lv_room (Nat.le_of_ble_eq_true rfl)) dW_968 hcs0) hP hD hS hA (fun H locs hP hD hS => ?_)
  refine W.eq (g2 := F0 m 971 ls [.long rv]) rfl ?_
  refine lv_lstore (lv' := [(6, .long rv), (5, .int k), (0, .ref b), (1, .ref c0), (2, .ref mo), (3, .ref ou), (4, .int (nI (6 * i)))]) hx hb dW_971 hl (by decide) rfl (fun ls hl => ?_)
  refine lv_aload_n hx hb dW_973 rfl (lv_at hl 4 rfl) ?_
  refine zz_call (va_runV (Ts := []) (As := []) (own := RL) ⟨hx, hb, hml, hown, fun _ h => nomatch h⟩ hTh (zt_cv hT tc_M_thrown tv_M_thrown tw_680 ⟨Nat.le_of_ble_eq_true rfl, Nat.le_of_ble_eq_true rfl⟩) (zz_preV (q0 := 0) hT (zq_Pl (zq_Pr hP)) hK rfl hm1) rfl rfl hl.1 rfl (lv_room (Nat.le_of_ble_eq_true rfl)) dW_974 hcs0) ?_
  refine lv_iload hx hb dW_977 (lv_at hl 1 rfl) ?_
  refine zz_ieq (tgt := 984) hx hb dW_979 (by decide) (fun h21 => ?_) (fun h21 => ?_)
  · refine lv_iload hx hb dW_984 (lv_at hl 1 rfl) ?_
    refine zz_zne (tgt := 1000) hx hb dW_986 (by decide) (fun h22 => ?_) (fun h22 => ?_)
    · refine lv_goto (tgt := 1147) hx hb dW_1000 (by decide) ?_
      exact kk _ _ _ hP hD hS (lv_sub hl [2, 3, 4, 5, 6] rfl)
    · refine lv_aload_n hx hb dW_989 rfl (lv_at hl 5 rfl) ?_
      refine lv_iconst (v := 0) hx hb dW_990 (by decide) ?_
      refine zz_lald hx hb hK (zq_Pr (zq_Pr hP)) 0 0 rfl rfl 0 rfl (by decide) (by decide) dW_991 ?_
      refine lv_lload hx hb dW_992 (lv_at hl 0 rfl) ?_
      refine zz_leq (tgt := 1000) hx hb dW_994 dW_995 (by decide) (fun h23 => ?_) (fun h23 => ?_)
      · refine lv_goto (tgt := 1147) hx hb dW_1000 (by decide) ?_
        exact kk _ _ _ hP hD hS (lv_sub hl [2, 3, 4, 5, 6] rfl)
      · exact absurd (hout h22) h23
  · exact absurd rfl h21
set_option maxHeartbeats 4000000 in
set_option maxRecDepth 100000 in
theorem lw_high {p : Program} {l : Launch} {e : Env} {s : State} {m : MethodId} {below : List Frame} {meth : Method} {c : Code} {b L : Nat} {xs : Nat → Int32} {A : Nat → Prop} {dC : Nat → ClassId} {dI : Nat → Nat → Nat} {cJ cI cB cZ cS : ClassId} {Q : State → Prop} (E : zl_E p s m c b L xs A dC dI cJ cI cB cZ cS)
    {H : Heap} {locs : List Loc} {cells slots i c0 mo ou fH lH fM lM : Nat} {ls : Array Slot} {CW CW1 Wc W1c Wcr M M1 : va_W} {fo fo1 : Nat → Int64} {k : Int32} {rv : Int64} {fs fs1 : List Value} (hc : cells + 1 ≤ 634533) (hs : slots + 6 ≤ 7192505) (hi : 6 * i + 6 ≤ L)
    (hp : CW.Perm (Wc ++ Wcr)) (hq : (W1c ++ Wcr).Perm CW1) (hH : ∀ sz : Nat, vx_Met l yL_high [Cond.codeWith yL_high cL_high 3 (some .int) hhL_high] { frames := fH, cells := 1, slots := 6, locals := lH } (va_Pc [.ref c0, .ref ou] (zy_B (dC, dI) vcl (zz_T cJ cI cB cZ cS) (Wc ++ zy_O ou cJ fo) sz)) (zq_Q (dC, dI) vcl (some (.int k)) (Wc ++ zy_O ou cJ fo) (W1c ++ zy_O ou cJ fo1) sz) zy_X 1 6 (va_A (Wc ++ zy_O ou cJ fo) sz)) (hRH : fH + 1 ≤ 12 ∧ 8 + (3 + 11) + lH ≤ 440)
    (hM : ∀ sz : Nat, Met l yM_high [Cond.code yM_high cM_high 1 (some .long)] { frames := fM, cells := 0, slots := 0, locals := lM } (va_Pc [.ref mo] (zq_B (dC, dI) vcl (zz_T cJ cI cB cZ cS) M sz)) (zq_Q (dC, dI) vcl (some (.long rv)) M M1 sz) 0 0 (va_A M sz)) (hRM : fM + 1 ≤ 12 ∧ 8 + (1 + 11) + lM ≤ 440) (hm0 : M[0]? = some (mo, .inr (4, fs))) (hm1 : M1[0]? = some (mo, .inr (4, fs1))) (hTh : Met l yM_thrown [Cond.code yM_thrown cM_thrown 1 (some .int)] { frames := 0, cells := 0, slots := 0, locals := 0 } (va_Pc [.ref mo] (zz_B (dC, dI) vcl (zz_T cJ cI cB cZ cS) M1)) (zz_Q (.int k)) 0 0 (fun _ => False))
    (hout : k = 0 → fo1 0 = rv)
    (hP : va_P (dC, dI) vcl (CW ++ (M ++ zy_O ou cJ fo)) H) (hD : va_D A (CW ++ (M ++ zy_O ou cJ fo))) (hS : va_S A s.heap H locs) (hl : lv_has ls 8 [(0, .ref b), (1, .ref c0), (2, .ref mo), (3, .ref ou), (4, .int (nI (6 * i)))])
    (kk : ∀ (H : Heap) (locs : List Loc) (ls : Array Slot), va_P (dC, dI) vcl (CW1 ++ (M1 ++ zy_O ou cJ fo1)) H → va_D A (CW1 ++ (M1 ++ zy_O ou cJ fo1)) → va_S A s.heap H locs → lv_has ls 8 [(0, .ref b), (1, .ref c0), (2, .ref mo), (3, .ref ou), (4, .int (nI (6 * i)))] → W p l e room_1 s m #[Value.ref b] below meth c H locs (cells + 1) (slots + 6) Q (F0 m 1147 ls [])) : W p l e room_1 s m #[Value.ref b] below meth c H locs cells slots Q (F0 m 1003 ls []) := by
  obtain ⟨hx, hb, hml, hown, hT, hN, hC, hZ, hK, hA, hX, hbl, hbA, hL⟩ := E
  have hcs : cells + 1 ≤ room_1.cells ∧ slots + 6 ≤ room_1.slots := ⟨hc, hs⟩
  have hcs0 : (cells + 1) + 0 ≤ room_1.cells ∧ (slots + 6) + 0 ≤ room_1.slots := ⟨hc, hs⟩
  refine lv_aload_n hx hb dW_1003 rfl (lv_at hl 1 rfl) ?_
  refine lv_aload_n hx hb dW_1004 rfl (lv_at hl 3 rfl) ?_
  refine zl_call (zl_p1 hp) (zl_p2 hq) (zy_run (vx_runSX (Ts := []) (As := [.ref c0, .ref ou]) (own := RL) ⟨hx, hb, hml, hown, fun _ h => nomatch h⟩ (hH H.size) (zt_ch hT th_L_high tw_530 hRH) (zy_preS hT (zq_Pl (zq_Pp (zl_p1 hp) hP)) hK (zq_Dl (zq_Dp (zl_p1 hp) hD)) hN hC hZ hS hA) rfl rfl hl.1 rfl (lv_room (Nat.le_of_ble_eq_true rfl)) dW_1005 hcs)) hP hD hS hA (fun H locs hP hD hS => ?_)
  refine W.eq (g2 := F0 m 1008 ls [.int k]) rfl ?_
  refine lv_istore (lv' := [(5, .int k), (0, .ref b), (1, .ref c0), (2, .ref mo), (3, .ref ou), (4, .int (nI (6 * i)))]) hx hb dW_1008 hl (by decide) rfl (fun ls hl => ?_)
  refine lv_aload_n hx hb dW_1010 rfl (lv_at hl 3 rfl) ?_
  refine zq_callP zl_pm zl_pm.symm (va_runV (Ts := []) (As := []) (own := RL) ⟨hx, hb, hml, hown, fun _ h => nomatch h⟩ (hM H.size) (zt_cv hT tc_M_high tv_M_high tw_816 hRM) (zq_preV (q0 := 0) hT (zq_Pl (zq_Pp zl_pm hP)) hK (zq_Dl (zq_Dp zl_pm hD)) rfl hm0) rfl rfl hl.1 rfl (lv_room (Nat.le_of_ble_eq_true rfl)) dW_1011 hcs0) hP hD hS hA (fun H locs hP hD hS => ?_)
  refine W.eq (g2 := F0 m 1014 ls [.long rv]) rfl ?_
  refine lv_lstore (lv' := [(6, .long rv), (5, .int k), (0, .ref b), (1, .ref c0), (2, .ref mo), (3, .ref ou), (4, .int (nI (6 * i)))]) hx hb dW_1014 hl (by decide) rfl (fun ls hl => ?_)
  refine lv_aload_n hx hb dW_1016 rfl (lv_at hl 4 rfl) ?_
  refine zz_call (va_runV (Ts := []) (As := []) (own := RL) ⟨hx, hb, hml, hown, fun _ h => nomatch h⟩ hTh (zt_cv hT tc_M_thrown tv_M_thrown tw_680 ⟨Nat.le_of_ble_eq_true rfl, Nat.le_of_ble_eq_true rfl⟩) (zz_preV (q0 := 0) hT (zq_Pl (zq_Pr hP)) hK rfl hm1) rfl rfl hl.1 rfl (lv_room (Nat.le_of_ble_eq_true rfl)) dW_1017 hcs0) ?_
  refine lv_iload hx hb dW_1020 (lv_at hl 1 rfl) ?_
  refine zz_ieq (tgt := 1027) hx hb dW_1022 (by decide) (fun h21 => ?_) (fun h21 => ?_)
  · refine lv_iload hx hb dW_1027 (lv_at hl 1 rfl) ?_
    refine zz_zne (tgt := 1043) hx hb dW_1029 (by decide) (fun h22 => ?_) (fun h22 => ?_)
    · refine lv_goto (tgt := 1147) hx hb dW_1043 (by decide) ?_
      exact kk _ _ _ hP hD hS (lv_sub hl [2, 3, 4, 5, 6] rfl)
    · refine lv_aload_n hx hb dW_1032 rfl (lv_at hl 5 rfl) ?_
      refine lv_iconst (v := 0) hx hb dW_1033 (by decide) ?_
      refine zz_lald hx hb hK (zq_Pr (zq_Pr hP)) 0 0 rfl rfl 0 rfl (by decide) (by decide) dW_1034 ?_
      refine lv_lload hx hb dW_1035 (lv_at hl 0 rfl) ?_
      refine zz_leq (tgt := 1043) hx hb dW_1037 dW_1038 (by decide) (fun h23 => ?_) (fun h23 => ?_)
      · refine lv_goto (tgt := 1147) hx hb dW_1043 (by decide) ?_
        exact kk _ _ _ hP hD hS (lv_sub hl [2, 3, 4, 5, 6] rfl)
      · exact absurd (hout h22) h23
  · exact absurd rfl h21
set_option maxHeartbeats 4000000 in
set_option maxRecDepth 100000 in
theorem lw_peer {p : Program} {l : Launch} {e : Env} {s : State} {m : MethodId} {below : List Frame} {meth : Method} {c : Code} {b L : Nat} {xs : Nat → Int32} {A : Nat → Prop} {dC : Nat → ClassId} {dI : Nat → Nat → Nat} {cJ cI cB cZ cS : ClassId} {Q : State → Prop} (E : zl_E p s m c b L xs A dC dI cJ cI cB cZ cS)
    {H : Heap} {locs : List Loc} {cells slots i c0 mo ou fH lH fM lM : Nat} {ls : Array Slot} {CW CW1 Wc W1c Wcr M M1 : va_W} {fo fo1 : Nat → Int64} {k : Int32} {rv : Int32} {fs fs1 : List Value} (hc : cells + 1 ≤ 634533) (hs : slots + 6 ≤ 7192505) (hi : 6 * i + 6 ≤ L)
    (hp : CW.Perm (Wc ++ Wcr)) (hq : (W1c ++ Wcr).Perm CW1) (hH : ∀ sz : Nat, vx_Met l yL_peer [Cond.codeWith yL_peer cL_peer 3 (some .int) hhL_peer] { frames := fH, cells := 1, slots := 6, locals := lH } (va_Pc [.ref c0, .ref ou] (zy_B (dC, dI) vcl (zz_T cJ cI cB cZ cS) (Wc ++ zy_O ou cJ fo) sz)) (zq_Q (dC, dI) vcl (some (.int k)) (Wc ++ zy_O ou cJ fo) (W1c ++ zy_O ou cJ fo1) sz) zy_X 1 6 (va_A (Wc ++ zy_O ou cJ fo) sz)) (hRH : fH + 1 ≤ 12 ∧ 8 + (3 + 11) + lH ≤ 440)
    (hM : ∀ sz : Nat, Met l yM_peer [Cond.code yM_peer cM_peer 1 (some .int)] { frames := fM, cells := 0, slots := 0, locals := lM } (va_Pc [.ref mo] (zq_B (dC, dI) vcl (zz_T cJ cI cB cZ cS) M sz)) (zq_Q (dC, dI) vcl (some (.int rv)) M M1 sz) 0 0 (va_A M sz)) (hRM : fM + 1 ≤ 12 ∧ 8 + (1 + 11) + lM ≤ 440) (hm0 : M[0]? = some (mo, .inr (4, fs))) (hm1 : M1[0]? = some (mo, .inr (4, fs1))) (hTh : Met l yM_thrown [Cond.code yM_thrown cM_thrown 1 (some .int)] { frames := 0, cells := 0, slots := 0, locals := 0 } (va_Pc [.ref mo] (zz_B (dC, dI) vcl (zz_T cJ cI cB cZ cS) M1)) (zz_Q (.int k)) 0 0 (fun _ => False))
    (hout : k = 0 → fo1 0 = Int32.toInt64 rv)
    (hP : va_P (dC, dI) vcl (CW ++ (M ++ zy_O ou cJ fo)) H) (hD : va_D A (CW ++ (M ++ zy_O ou cJ fo))) (hS : va_S A s.heap H locs) (hl : lv_has ls 8 [(0, .ref b), (1, .ref c0), (2, .ref mo), (3, .ref ou), (4, .int (nI (6 * i)))])
    (kk : ∀ (H : Heap) (locs : List Loc) (ls : Array Slot), va_P (dC, dI) vcl (CW1 ++ (M1 ++ zy_O ou cJ fo1)) H → va_D A (CW1 ++ (M1 ++ zy_O ou cJ fo1)) → va_S A s.heap H locs → lv_has ls 8 [(0, .ref b), (1, .ref c0), (2, .ref mo), (3, .ref ou), (4, .int (nI (6 * i)))] → W p l e room_1 s m #[Value.ref b] below meth c H locs (cells + 1) (slots + 6) Q (F0 m 1147 ls [])) : W p l e room_1 s m #[Value.ref b] below meth c H locs cells slots Q (F0 m 1059 ls []) := by
  obtain ⟨hx, hb, hml, hown, hT, hN, hC, hZ, hK, hA, hX, hbl, hbA, hL⟩ := E
  have hcs : cells + 1 ≤ room_1.cells ∧ slots + 6 ≤ room_1.slots := ⟨hc, hs⟩
  have hcs0 : (cells + 1) + 0 ≤ room_1.cells ∧ (slots + 6) + 0 ≤ room_1.slots := ⟨hc, hs⟩
  refine lv_aload_n hx hb dW_1059 rfl (lv_at hl 1 rfl) ?_
  refine lv_aload_n hx hb dW_1060 rfl (lv_at hl 3 rfl) ?_
  refine zl_call (zl_p1 hp) (zl_p2 hq) (zy_run (vx_runSX (Ts := []) (As := [.ref c0, .ref ou]) (own := RL) ⟨hx, hb, hml, hown, fun _ h => nomatch h⟩ (hH H.size) (zt_ch hT th_L_peer tw_537 hRH) (zy_preS hT (zq_Pl (zq_Pp (zl_p1 hp) hP)) hK (zq_Dl (zq_Dp (zl_p1 hp) hD)) hN hC hZ hS hA) rfl rfl hl.1 rfl (lv_room (Nat.le_of_ble_eq_true rfl)) dW_1061 hcs)) hP hD hS hA (fun H locs hP hD hS => ?_)
  refine W.eq (g2 := F0 m 1064 ls [.int k]) rfl ?_
  refine lv_istore (lv' := [(5, .int k), (0, .ref b), (1, .ref c0), (2, .ref mo), (3, .ref ou), (4, .int (nI (6 * i)))]) hx hb dW_1064 hl (by decide) rfl (fun ls hl => ?_)
  refine lv_aload_n hx hb dW_1066 rfl (lv_at hl 3 rfl) ?_
  refine zq_callP zl_pm zl_pm.symm (va_runV (Ts := []) (As := []) (own := RL) ⟨hx, hb, hml, hown, fun _ h => nomatch h⟩ (hM H.size) (zt_cv hT tc_M_peer tv_M_peer tw_833 hRM) (zq_preV (q0 := 0) hT (zq_Pl (zq_Pp zl_pm hP)) hK (zq_Dl (zq_Dp zl_pm hD)) rfl hm0) rfl rfl hl.1 rfl (lv_room (Nat.le_of_ble_eq_true rfl)) dW_1067 hcs0) hP hD hS hA (fun H locs hP hD hS => ?_)
  refine W.eq (g2 := F0 m 1070 ls [.int rv]) rfl ?_
  refine lv_istore (lv' := [(6, .int rv), (5, .int k), (0, .ref b), (1, .ref c0), (2, .ref mo), (3, .ref ou), (4, .int (nI (6 * i)))]) hx hb dW_1070 hl (by decide) rfl (fun ls hl => ?_)
  refine lv_aload_n hx hb dW_1072 rfl (lv_at hl 4 rfl) ?_
  refine zz_call (va_runV (Ts := []) (As := []) (own := RL) ⟨hx, hb, hml, hown, fun _ h => nomatch h⟩ hTh (zt_cv hT tc_M_thrown tv_M_thrown tw_680 ⟨Nat.le_of_ble_eq_true rfl, Nat.le_of_ble_eq_true rfl⟩) (zz_preV (q0 := 0) hT (zq_Pl (zq_Pr hP)) hK rfl hm1) rfl rfl hl.1 rfl (lv_room (Nat.le_of_ble_eq_true rfl)) dW_1073 hcs0) ?_
  refine lv_iload hx hb dW_1076 (lv_at hl 1 rfl) ?_
  refine zz_ieq (tgt := 1083) hx hb dW_1078 (by decide) (fun h21 => ?_) (fun h21 => ?_)
  · refine lv_iload hx hb dW_1083 (lv_at hl 1 rfl) ?_
    refine zz_zne (tgt := 1100) hx hb dW_1085 (by decide) (fun h22 => ?_) (fun h22 => ?_)
    · refine lv_goto (tgt := 1147) hx hb dW_1100 (by decide) ?_
      exact kk _ _ _ hP hD hS (lv_sub hl [2, 3, 4, 5, 6] rfl)
    · refine lv_aload_n hx hb dW_1088 rfl (lv_at hl 5 rfl) ?_
      refine lv_iconst (v := 0) hx hb dW_1089 (by decide) ?_
      refine zz_lald hx hb hK (zq_Pr (zq_Pr hP)) 0 0 rfl rfl 0 rfl (by decide) (by decide) dW_1090 ?_
      refine lv_iload hx hb dW_1091 (lv_at hl 0 rfl) ?_
      refine lv_i2l (v := Int32.toInt64 rv) hx hb dW_1093 rfl ?_
      refine zz_leq (tgt := 1100) hx hb dW_1094 dW_1095 (by decide) (fun h23 => ?_) (fun h23 => ?_)
      · refine lv_goto (tgt := 1147) hx hb dW_1100 (by decide) ?_
        exact kk _ _ _ hP hD hS (lv_sub hl [2, 3, 4, 5, 6] rfl)
      · exact absurd (hout h22) h23
  · exact absurd rfl h21
set_option maxHeartbeats 4000000 in
set_option maxRecDepth 100000 in
theorem lw_update {p : Program} {l : Launch} {e : Env} {s : State} {m : MethodId} {below : List Frame} {meth : Method} {c : Code} {b L : Nat} {xs : Nat → Int32} {A : Nat → Prop} {dC : Nat → ClassId} {dI : Nat → Nat → Nat} {cJ cI cB cZ cS : ClassId} {Q : State → Prop} (E : zl_E p s m c b L xs A dC dI cJ cI cB cZ cS)
    {H : Heap} {locs : List Loc} {cells slots i c0 mo ou fH lH fM lM : Nat} {ls : Array Slot} {CW CW1 Wc W1c Wcr M M1 : va_W} {fo fo1 : Nat → Int64} {k : Int32} {rv : Int32} {fs fs1 : List Value} (hc : cells + 1 ≤ 634533) (hs : slots + 6 ≤ 7192505) (hi : 6 * i + 6 ≤ L)
    (hp : CW.Perm (Wc ++ Wcr)) (hq : (W1c ++ Wcr).Perm CW1) (hH : ∀ sz : Nat, vx_Met l yL_update [Cond.codeWith yL_update cL_update 3 (some .int) hhL_update] { frames := fH, cells := 1, slots := 6, locals := lH } (va_Pc [.ref c0, .ref ou] (zy_B (dC, dI) vcl (zz_T cJ cI cB cZ cS) (Wc ++ zy_O ou cJ fo) sz)) (zq_Q (dC, dI) vcl (some (.int k)) (Wc ++ zy_O ou cJ fo) (W1c ++ zy_O ou cJ fo1) sz) zy_X 1 6 (va_A (Wc ++ zy_O ou cJ fo) sz)) (hRH : fH + 1 ≤ 12 ∧ 8 + (3 + 11) + lH ≤ 440)
    (hM : ∀ sz : Nat, Met l yM_update [Cond.code yM_update cM_update 4 (some .int)] { frames := fM, cells := 0, slots := 0, locals := lM } (va_Pc [.ref mo] (zq_B (dC, dI) vcl (zz_T cJ cI cB cZ cS) M sz)) (zq_Q (dC, dI) vcl (some (.int rv)) M M1 sz) 0 0 (va_A M sz)) (hRM : fM + 1 ≤ 12 ∧ 8 + (4 + 11) + lM ≤ 440) (hm0 : M[0]? = some (mo, .inr (4, fs))) (hm1 : M1[0]? = some (mo, .inr (4, fs1))) (hTh : Met l yM_thrown [Cond.code yM_thrown cM_thrown 1 (some .int)] { frames := 0, cells := 0, slots := 0, locals := 0 } (va_Pc [.ref mo] (zz_B (dC, dI) vcl (zz_T cJ cI cB cZ cS) M1)) (zz_Q (.int k)) 0 0 (fun _ => False))
    (hout : k = 0 → fo1 0 = Int32.toInt64 rv)
    (hP : va_P (dC, dI) vcl (CW ++ (M ++ zy_O ou cJ fo)) H) (hD : va_D A (CW ++ (M ++ zy_O ou cJ fo))) (hS : va_S A s.heap H locs) (hl : lv_has ls 8 [(0, .ref b), (1, .ref c0), (2, .ref mo), (3, .ref ou), (4, .int (nI (6 * i)))])
    (kk : ∀ (H : Heap) (locs : List Loc) (ls : Array Slot), va_P (dC, dI) vcl (CW1 ++ (M1 ++ zy_O ou cJ fo1)) H → va_D A (CW1 ++ (M1 ++ zy_O ou cJ fo1)) → va_S A s.heap H locs → lv_has ls 8 [(0, .ref b), (1, .ref c0), (2, .ref mo), (3, .ref ou), (4, .int (nI (6 * i)))] → W p l e room_1 s m #[Value.ref b] below meth c H locs (cells + 1) (slots + 6) Q (F0 m 1147 ls [])) : W p l e room_1 s m #[Value.ref b] below meth c H locs cells slots Q (F0 m 1103 ls []) := by
  obtain ⟨hx, hb, hml, hown, hT, hN, hC, hZ, hK, hA, hX, hbl, hbA, hL⟩ := E
  have hcs : cells + 1 ≤ room_1.cells ∧ slots + 6 ≤ room_1.slots := ⟨hc, hs⟩
  have hcs0 : (cells + 1) + 0 ≤ room_1.cells ∧ (slots + 6) + 0 ≤ room_1.slots := ⟨hc, hs⟩
  refine lv_aload_n hx hb dW_1103 rfl (lv_at hl 1 rfl) ?_
  refine lv_aload_n hx hb dW_1104 rfl (lv_at hl 3 rfl) ?_
  refine zl_call (zl_p1 hp) (zl_p2 hq) (zy_run (vx_runSX (Ts := []) (As := [.ref c0, .ref ou]) (own := RL) ⟨hx, hb, hml, hown, fun _ h => nomatch h⟩ (hH H.size) (zt_ch hT th_L_update tw_560 hRH) (zy_preS hT (zq_Pl (zq_Pp (zl_p1 hp) hP)) hK (zq_Dl (zq_Dp (zl_p1 hp) hD)) hN hC hZ hS hA) rfl rfl hl.1 rfl (lv_room (Nat.le_of_ble_eq_true rfl)) dW_1105 hcs)) hP hD hS hA (fun H locs hP hD hS => ?_)
  refine W.eq (g2 := F0 m 1108 ls [.int k]) rfl ?_
  refine lv_istore (lv' := [(5, .int k), (0, .ref b), (1, .ref c0), (2, .ref mo), (3, .ref ou), (4, .int (nI (6 * i)))]) hx hb dW_1108 hl (by decide) rfl (fun ls hl => ?_)
  refine lv_aload_n hx hb dW_1110 rfl (lv_at hl 3 rfl) ?_
  refine zq_callP zl_pm zl_pm.symm (va_runV (Ts := []) (As := []) (own := RL) ⟨hx, hb, hml, hown, fun _ h => nomatch h⟩ (hM H.size) (zt_cv hT tc_M_update tv_M_update tw_841 hRM) (zq_preV (q0 := 0) hT (zq_Pl (zq_Pp zl_pm hP)) hK (zq_Dl (zq_Dp zl_pm hD)) rfl hm0) rfl rfl hl.1 rfl (lv_room (Nat.le_of_ble_eq_true rfl)) dW_1111 hcs0) hP hD hS hA (fun H locs hP hD hS => ?_)
  refine W.eq (g2 := F0 m 1114 ls [.int rv]) rfl ?_
  refine lv_istore (lv' := [(6, .int rv), (5, .int k), (0, .ref b), (1, .ref c0), (2, .ref mo), (3, .ref ou), (4, .int (nI (6 * i)))]) hx hb dW_1114 hl (by decide) rfl (fun ls hl => ?_)
  refine lv_aload_n hx hb dW_1116 rfl (lv_at hl 4 rfl) ?_
  refine zz_call (va_runV (Ts := []) (As := []) (own := RL) ⟨hx, hb, hml, hown, fun _ h => nomatch h⟩ hTh (zt_cv hT tc_M_thrown tv_M_thrown tw_680 ⟨Nat.le_of_ble_eq_true rfl, Nat.le_of_ble_eq_true rfl⟩) (zz_preV (q0 := 0) hT (zq_Pl (zq_Pr hP)) hK rfl hm1) rfl rfl hl.1 rfl (lv_room (Nat.le_of_ble_eq_true rfl)) dW_1117 hcs0) ?_
  refine lv_iload hx hb dW_1120 (lv_at hl 1 rfl) ?_
  refine zz_ieq (tgt := 1127) hx hb dW_1122 (by decide) (fun h21 => ?_) (fun h21 => ?_)
  · refine lv_iload hx hb dW_1127 (lv_at hl 1 rfl) ?_
    refine zz_zne (tgt := 1144) hx hb dW_1129 (by decide) (fun h22 => ?_) (fun h22 => ?_)
    · refine lv_goto (tgt := 1147) hx hb dW_1144 (by decide) ?_
      exact kk _ _ _ hP hD hS (lv_sub hl [2, 3, 4, 5, 6] rfl)
    · refine lv_aload_n hx hb dW_1132 rfl (lv_at hl 5 rfl) ?_
      refine lv_iconst (v := 0) hx hb dW_1133 (by decide) ?_
      refine zz_lald hx hb hK (zq_Pr (zq_Pr hP)) 0 0 rfl rfl 0 rfl (by decide) (by decide) dW_1134 ?_
      refine lv_iload hx hb dW_1135 (lv_at hl 0 rfl) ?_
      refine lv_i2l (v := Int32.toInt64 rv) hx hb dW_1137 rfl ?_
      refine zz_leq (tgt := 1144) hx hb dW_1138 dW_1139 (by decide) (fun h23 => ?_) (fun h23 => ?_)
      · refine lv_goto (tgt := 1147) hx hb dW_1144 (by decide) ?_
        exact kk _ _ _ hP hD hS (lv_sub hl [2, 3, 4, 5, 6] rfl)
      · exact absurd (hout h22) h23
  · exact absurd rfl h21
set_option maxHeartbeats 4000000 in
set_option maxRecDepth 100000 in
theorem lw_local {p : Program} {l : Launch} {e : Env} {s : State} {m : MethodId} {below : List Frame} {meth : Method} {c : Code} {b L : Nat} {xs : Nat → Int32} {A : Nat → Prop} {dC : Nat → ClassId} {dI : Nat → Nat → Nat} {cJ cI cB cZ cS : ClassId} {Q : State → Prop} (E : zl_E p s m c b L xs A dC dI cJ cI cB cZ cS)
    {H : Heap} {locs : List Loc} {cells slots i c0 mo ou fH lH fM lM : Nat} {ls : Array Slot} {CW Wc Wcr M M1 : va_W} {fo : Nat → Int64} {rv : Int64} {fs fsc : List Value} {q0 : Nat} (hc : cells + 1 ≤ 634533) (hs : slots + 6 ≤ 7192505) (hi : 6 * i + 6 ≤ L)
    (hp : CW.Perm (Wc ++ Wcr)) (hH : Met l yC_local [Cond.code yC_local cC_local 1 (some .long)] { frames := fH, cells := 0, slots := 0, locals := lH } (va_Pc [.ref c0] (zz_B (dC, dI) vcl (zz_T cJ cI cB cZ cS) Wc)) (zz_Q (.long rv)) 0 0 (fun _ => False)) (hRH : fH + 1 ≤ 12 ∧ 8 + (1 + 11) + lH ≤ 440) (hc0 : Wc[q0]? = some (c0, .inr (3, fsc)))
    (hM : ∀ sz : Nat, Met l yM_local [Cond.code yM_local cM_local 1 (some .long)] { frames := fM, cells := 0, slots := 0, locals := lM } (va_Pc [.ref mo] (zq_B (dC, dI) vcl (zz_T cJ cI cB cZ cS) M sz)) (zq_Q (dC, dI) vcl (some (.long rv)) M M1 sz) 0 0 (va_A M sz)) (hRM : fM + 1 ≤ 12 ∧ 8 + (1 + 11) + lM ≤ 440) (hm0 : M[0]? = some (mo, .inr (4, fs)))
    (hP : va_P (dC, dI) vcl (CW ++ (M ++ zy_O ou cJ fo)) H) (hD : va_D A (CW ++ (M ++ zy_O ou cJ fo))) (hS : va_S A s.heap H locs) (hl : lv_has ls 8 [(0, .ref b), (1, .ref c0), (2, .ref mo), (3, .ref ou), (4, .int (nI (6 * i)))])
    (kk : ∀ (H : Heap) (locs : List Loc) (ls : Array Slot), va_P (dC, dI) vcl (CW ++ (M1 ++ zy_O ou cJ fo)) H → va_D A (CW ++ (M1 ++ zy_O ou cJ fo)) → va_S A s.heap H locs → lv_has ls 8 [(0, .ref b), (1, .ref c0), (2, .ref mo), (3, .ref ou), (4, .int (nI (6 * i)))] → W p l e room_1 s m #[Value.ref b] below meth c H locs (cells + 1) (slots + 6) Q (F0 m 1147 ls [])) : W p l e room_1 s m #[Value.ref b] below meth c H locs cells slots Q (F0 m 204 ls []) := by
  obtain ⟨hx, hb, hml, hown, hT, hN, hC, hZ, hK, hA, hX, hbl, hbA, hL⟩ := E
  have hcs : cells + 1 ≤ room_1.cells ∧ slots + 6 ≤ room_1.slots := ⟨hc, hs⟩
  refine W.widen (Nat.le_succ cells) (Nat.le_add_right slots 6) ?_
  have hcs0 : (cells + 1) + 0 ≤ room_1.cells ∧ (slots + 6) + 0 ≤ room_1.slots := ⟨hc, hs⟩
  have hrv : rv = rv := rfl
  refine lv_aload_n hx hb dW_204 rfl (lv_at hl 1 rfl) ?_
  refine zz_call (va_runV (Ts := []) (As := []) (own := RL) ⟨hx, hb, hml, hown, fun _ h => nomatch h⟩ hH (zt_cv hT tc_C_local tv_C_local tw_140 hRH) (zz_preV (q0 := q0) hT (zq_Pl (zq_Pp (zl_p3 hp) hP)) hK rfl hc0) rfl rfl hl.1 rfl (lv_room (Nat.le_of_ble_eq_true rfl)) dW_205 hcs0) ?_
  refine lv_aload_n hx hb dW_208 rfl (lv_at hl 2 rfl) ?_
  refine zq_callP zl_pm zl_pm.symm (va_runV (Ts := []) (As := []) (own := RL) ⟨hx, hb, hml, hown, fun _ h => nomatch h⟩ (hM H.size) (zt_cv hT tc_M_local tv_M_local tw_690 hRM) (zq_preV (q0 := 0) hT (zq_Pl (zq_Pp zl_pm hP)) hK (zq_Dl (zq_Dp zl_pm hD)) rfl hm0) rfl rfl hl.1 rfl (lv_room (Nat.le_of_ble_eq_true rfl)) dW_209 hcs0) hP hD hS hA (fun H locs hP hD hS => ?_)
  refine W.eq (g2 := F0 m 212 ls [.long rv, .long rv]) rfl ?_
  refine zz_leq (tgt := 1147) hx hb dW_212 dW_213 (by decide) (fun h21 => ?_) (fun h21 => ?_)
  · exact kk _ _ _ hP hD hS (lv_sub hl [0, 1, 2, 3, 4] rfl)
  · exact absurd hrv h21
set_option maxHeartbeats 4000000 in
set_option maxRecDepth 100000 in
theorem lw_slew {p : Program} {l : Launch} {e : Env} {s : State} {m : MethodId} {below : List Frame} {meth : Method} {c : Code} {b L : Nat} {xs : Nat → Int32} {A : Nat → Prop} {dC : Nat → ClassId} {dI : Nat → Nat → Nat} {cJ cI cB cZ cS : ClassId} {Q : State → Prop} (E : zl_E p s m c b L xs A dC dI cJ cI cB cZ cS)
    {H : Heap} {locs : List Loc} {cells slots i c0 mo ou fH lH fM lM : Nat} {ls : Array Slot} {CW Wc Wcr M M1 : va_W} {fo : Nat → Int64} {rv : Int64} {fs fsc : List Value} {q0 : Nat} (hc : cells + 1 ≤ 634533) (hs : slots + 6 ≤ 7192505) (hi : 6 * i + 6 ≤ L)
    (hp : CW.Perm (Wc ++ Wcr)) (hH : Met l yC_slew [Cond.code yC_slew cC_slew 1 (some .long)] { frames := fH, cells := 0, slots := 0, locals := lH } (va_Pc [.ref c0] (zz_B (dC, dI) vcl (zz_T cJ cI cB cZ cS) Wc)) (zz_Q (.long rv)) 0 0 (fun _ => False)) (hRH : fH + 1 ≤ 12 ∧ 8 + (1 + 11) + lH ≤ 440) (hc0 : Wc[q0]? = some (c0, .inr (3, fsc)))
    (hM : ∀ sz : Nat, Met l yM_slew [Cond.code yM_slew cM_slew 1 (some .long)] { frames := fM, cells := 0, slots := 0, locals := lM } (va_Pc [.ref mo] (zq_B (dC, dI) vcl (zz_T cJ cI cB cZ cS) M sz)) (zq_Q (dC, dI) vcl (some (.long rv)) M M1 sz) 0 0 (va_A M sz)) (hRM : fM + 1 ≤ 12 ∧ 8 + (1 + 11) + lM ≤ 440) (hm0 : M[0]? = some (mo, .inr (4, fs)))
    (hP : va_P (dC, dI) vcl (CW ++ (M ++ zy_O ou cJ fo)) H) (hD : va_D A (CW ++ (M ++ zy_O ou cJ fo))) (hS : va_S A s.heap H locs) (hl : lv_has ls 8 [(0, .ref b), (1, .ref c0), (2, .ref mo), (3, .ref ou), (4, .int (nI (6 * i)))])
    (kk : ∀ (H : Heap) (locs : List Loc) (ls : Array Slot), va_P (dC, dI) vcl (CW ++ (M1 ++ zy_O ou cJ fo)) H → va_D A (CW ++ (M1 ++ zy_O ou cJ fo)) → va_S A s.heap H locs → lv_has ls 8 [(0, .ref b), (1, .ref c0), (2, .ref mo), (3, .ref ou), (4, .int (nI (6 * i)))] → W p l e room_1 s m #[Value.ref b] below meth c H locs (cells + 1) (slots + 6) Q (F0 m 1147 ls [])) : W p l e room_1 s m #[Value.ref b] below meth c H locs cells slots Q (F0 m 218 ls []) := by
  obtain ⟨hx, hb, hml, hown, hT, hN, hC, hZ, hK, hA, hX, hbl, hbA, hL⟩ := E
  have hcs : cells + 1 ≤ room_1.cells ∧ slots + 6 ≤ room_1.slots := ⟨hc, hs⟩
  refine W.widen (Nat.le_succ cells) (Nat.le_add_right slots 6) ?_
  have hcs0 : (cells + 1) + 0 ≤ room_1.cells ∧ (slots + 6) + 0 ≤ room_1.slots := ⟨hc, hs⟩
  have hrv : rv = rv := rfl
  refine lv_aload_n hx hb dW_218 rfl (lv_at hl 1 rfl) ?_
  refine zz_call (va_runV (Ts := []) (As := []) (own := RL) ⟨hx, hb, hml, hown, fun _ h => nomatch h⟩ hH (zt_cv hT tc_C_slew tv_C_slew tw_144 hRH) (zz_preV (q0 := q0) hT (zq_Pl (zq_Pp (zl_p3 hp) hP)) hK rfl hc0) rfl rfl hl.1 rfl (lv_room (Nat.le_of_ble_eq_true rfl)) dW_219 hcs0) ?_
  refine lv_aload_n hx hb dW_222 rfl (lv_at hl 2 rfl) ?_
  refine zq_callP zl_pm zl_pm.symm (va_runV (Ts := []) (As := []) (own := RL) ⟨hx, hb, hml, hown, fun _ h => nomatch h⟩ (hM H.size) (zt_cv hT tc_M_slew tv_M_slew tw_694 hRM) (zq_preV (q0 := 0) hT (zq_Pl (zq_Pp zl_pm hP)) hK (zq_Dl (zq_Dp zl_pm hD)) rfl hm0) rfl rfl hl.1 rfl (lv_room (Nat.le_of_ble_eq_true rfl)) dW_223 hcs0) hP hD hS hA (fun H locs hP hD hS => ?_)
  refine W.eq (g2 := F0 m 226 ls [.long rv, .long rv]) rfl ?_
  refine zz_leq (tgt := 1147) hx hb dW_226 dW_227 (by decide) (fun h21 => ?_) (fun h21 => ?_)
  · exact kk _ _ _ hP hD hS (lv_sub hl [0, 1, 2, 3, 4] rfl)
  · exact absurd hrv h21
set_option maxHeartbeats 4000000 in
set_option maxRecDepth 100000 in
theorem lw_candidates {p : Program} {l : Launch} {e : Env} {s : State} {m : MethodId} {below : List Frame} {meth : Method} {c : Code} {b L : Nat} {xs : Nat → Int32} {A : Nat → Prop} {dC : Nat → ClassId} {dI : Nat → Nat → Nat} {cJ cI cB cZ cS : ClassId} {Q : State → Prop} (E : zl_E p s m c b L xs A dC dI cJ cI cB cZ cS)
    {H : Heap} {locs : List Loc} {cells slots i c0 mo ou fH lH fM lM : Nat} {ls : Array Slot} {CW CW1 Wc W1c Wcr M M1 : va_W} {fo : Nat → Int64} {rv : Int32} {fs fsc : List Value} {q0 : Nat} (hc : cells + 1 ≤ 634533) (hs : slots + 6 ≤ 7192505) (hi : 6 * i + 6 ≤ L)
    (hp : CW.Perm (Wc ++ Wcr)) (hq : (W1c ++ Wcr).Perm CW1) (hH : ∀ sz : Nat, Met l yC_candidates [Cond.code yC_candidates cC_candidates 1 (some .int)] { frames := fH, cells := 0, slots := 0, locals := lH } (va_Pc [.ref c0] (zq_B (dC, dI) vcl (zz_T cJ cI cB cZ cS) Wc sz)) (zq_Q (dC, dI) vcl (some (.int rv)) Wc W1c sz) 0 0 (va_A Wc sz)) (hRH : fH + 1 ≤ 12 ∧ 8 + (1 + 11) + lH ≤ 440) (hc0 : Wc[q0]? = some (c0, .inr (3, fsc)))
    (hM : ∀ sz : Nat, Met l yM_candidates [Cond.code yM_candidates cM_candidates 3 (some .int)] { frames := fM, cells := 0, slots := 0, locals := lM } (va_Pc [.ref mo] (zq_B (dC, dI) vcl (zz_T cJ cI cB cZ cS) M sz)) (zq_Q (dC, dI) vcl (some (.int rv)) M M1 sz) 0 0 (va_A M sz)) (hRM : fM + 1 ≤ 12 ∧ 8 + (3 + 11) + lM ≤ 440) (hm0 : M[0]? = some (mo, .inr (4, fs)))
    (hP : va_P (dC, dI) vcl (CW ++ (M ++ zy_O ou cJ fo)) H) (hD : va_D A (CW ++ (M ++ zy_O ou cJ fo))) (hS : va_S A s.heap H locs) (hl : lv_has ls 8 [(0, .ref b), (1, .ref c0), (2, .ref mo), (3, .ref ou), (4, .int (nI (6 * i)))])
    (kk : ∀ (H : Heap) (locs : List Loc) (ls : Array Slot), va_P (dC, dI) vcl (CW1 ++ (M1 ++ zy_O ou cJ fo)) H → va_D A (CW1 ++ (M1 ++ zy_O ou cJ fo)) → va_S A s.heap H locs → lv_has ls 8 [(0, .ref b), (1, .ref c0), (2, .ref mo), (3, .ref ou), (4, .int (nI (6 * i)))] → W p l e room_1 s m #[Value.ref b] below meth c H locs (cells + 1) (slots + 6) Q (F0 m 1147 ls [])) : W p l e room_1 s m #[Value.ref b] below meth c H locs cells slots Q (F0 m 947 ls []) := by
  obtain ⟨hx, hb, hml, hown, hT, hN, hC, hZ, hK, hA, hX, hbl, hbA, hL⟩ := E
  have hcs : cells + 1 ≤ room_1.cells ∧ slots + 6 ≤ room_1.slots := ⟨hc, hs⟩
  refine W.widen (Nat.le_succ cells) (Nat.le_add_right slots 6) ?_
  have hcs0 : (cells + 1) + 0 ≤ room_1.cells ∧ (slots + 6) + 0 ≤ room_1.slots := ⟨hc, hs⟩
  have hrv : rv = rv := rfl
  refine lv_aload_n hx hb dW_947 rfl (lv_at hl 1 rfl) ?_
  refine zq_callP (zl_p3 hp) (zl_p3 hq.symm).symm (va_runV (Ts := []) (As := []) (own := RL) ⟨hx, hb, hml, hown, fun _ h => nomatch h⟩ (hH H.size) (zt_cv hT tc_C_candidates tv_C_candidates tw_148 hRH) (zq_preV (q0 := q0) hT (zq_Pl (zq_Pp (zl_p3 hp) hP)) hK (zq_Dl (zq_Dp (zl_p3 hp) hD)) rfl hc0) rfl rfl hl.1 rfl (lv_room (Nat.le_of_ble_eq_true rfl)) dW_948 hcs0) hP hD hS hA (fun H locs hP hD hS => ?_)
  refine W.eq (g2 := F0 m 951 ls [.int rv]) rfl ?_
  refine lv_aload_n hx hb dW_951 rfl (lv_at hl 2 rfl) ?_
  refine zq_callP zl_pm zl_pm.symm (va_runV (Ts := []) (As := []) (own := RL) ⟨hx, hb, hml, hown, fun _ h => nomatch h⟩ (hM H.size) (zt_cv hT tc_M_candidates tv_M_candidates tw_795 hRM) (zq_preV (q0 := 0) hT (zq_Pl (zq_Pp zl_pm hP)) hK (zq_Dl (zq_Dp zl_pm hD)) rfl hm0) rfl rfl hl.1 rfl (lv_room (Nat.le_of_ble_eq_true rfl)) dW_952 hcs0) hP hD hS hA (fun H locs hP hD hS => ?_)
  refine W.eq (g2 := F0 m 955 ls [.int rv, .int rv]) rfl ?_
  refine zz_ieq (tgt := 1147) hx hb dW_955 (by decide) (fun h21 => ?_) (fun h21 => ?_)
  · exact kk _ _ _ hP hD hS (lv_sub hl [0, 1, 2, 3, 4] rfl)
  · exact absurd hrv h21
set_option maxHeartbeats 4000000 in
set_option maxRecDepth 100000 in
theorem lw_survivors {p : Program} {l : Launch} {e : Env} {s : State} {m : MethodId} {below : List Frame} {meth : Method} {c : Code} {b L : Nat} {xs : Nat → Int32} {A : Nat → Prop} {dC : Nat → ClassId} {dI : Nat → Nat → Nat} {cJ cI cB cZ cS : ClassId} {Q : State → Prop} (E : zl_E p s m c b L xs A dC dI cJ cI cB cZ cS)
    {H : Heap} {locs : List Loc} {cells slots i c0 mo ou fH lH fM lM : Nat} {ls : Array Slot} {CW CW1 Wc W1c Wcr M M1 : va_W} {fo : Nat → Int64} {rv : Int32} {fs fsc : List Value} {q0 : Nat} (hc : cells + 1 ≤ 634533) (hs : slots + 6 ≤ 7192505) (hi : 6 * i + 6 ≤ L)
    (hp : CW.Perm (Wc ++ Wcr)) (hq : (W1c ++ Wcr).Perm CW1) (hH : ∀ sz : Nat, Met l yC_survivors [Cond.code yC_survivors cC_survivors 1 (some .int)] { frames := fH, cells := 0, slots := 0, locals := lH } (va_Pc [.ref c0] (zq_B (dC, dI) vcl (zz_T cJ cI cB cZ cS) Wc sz)) (zq_Q (dC, dI) vcl (some (.int rv)) Wc W1c sz) 0 0 (va_A Wc sz)) (hRH : fH + 1 ≤ 12 ∧ 8 + (1 + 11) + lH ≤ 440) (hc0 : Wc[q0]? = some (c0, .inr (3, fsc)))
    (hM : ∀ sz : Nat, Met l yM_survivors [Cond.code yM_survivors cM_survivors 3 (some .int)] { frames := fM, cells := 0, slots := 0, locals := lM } (va_Pc [.ref mo] (zq_B (dC, dI) vcl (zz_T cJ cI cB cZ cS) M sz)) (zq_Q (dC, dI) vcl (some (.int rv)) M M1 sz) 0 0 (va_A M sz)) (hRM : fM + 1 ≤ 12 ∧ 8 + (3 + 11) + lM ≤ 440) (hm0 : M[0]? = some (mo, .inr (4, fs)))
    (hP : va_P (dC, dI) vcl (CW ++ (M ++ zy_O ou cJ fo)) H) (hD : va_D A (CW ++ (M ++ zy_O ou cJ fo))) (hS : va_S A s.heap H locs) (hl : lv_has ls 8 [(0, .ref b), (1, .ref c0), (2, .ref mo), (3, .ref ou), (4, .int (nI (6 * i)))])
    (kk : ∀ (H : Heap) (locs : List Loc) (ls : Array Slot), va_P (dC, dI) vcl (CW1 ++ (M1 ++ zy_O ou cJ fo)) H → va_D A (CW1 ++ (M1 ++ zy_O ou cJ fo)) → va_S A s.heap H locs → lv_has ls 8 [(0, .ref b), (1, .ref c0), (2, .ref mo), (3, .ref ou), (4, .int (nI (6 * i)))] → W p l e room_1 s m #[Value.ref b] below meth c H locs (cells + 1) (slots + 6) Q (F0 m 1147 ls [])) : W p l e room_1 s m #[Value.ref b] below meth c H locs cells slots Q (F0 m 1046 ls []) := by
  obtain ⟨hx, hb, hml, hown, hT, hN, hC, hZ, hK, hA, hX, hbl, hbA, hL⟩ := E
  have hcs : cells + 1 ≤ room_1.cells ∧ slots + 6 ≤ room_1.slots := ⟨hc, hs⟩
  refine W.widen (Nat.le_succ cells) (Nat.le_add_right slots 6) ?_
  have hcs0 : (cells + 1) + 0 ≤ room_1.cells ∧ (slots + 6) + 0 ≤ room_1.slots := ⟨hc, hs⟩
  have hrv : rv = rv := rfl
  refine lv_aload_n hx hb dW_1046 rfl (lv_at hl 1 rfl) ?_
  refine zq_callP (zl_p3 hp) (zl_p3 hq.symm).symm (va_runV (Ts := []) (As := []) (own := RL) ⟨hx, hb, hml, hown, fun _ h => nomatch h⟩ (hH H.size) (zt_cv hT tc_C_survivors tv_C_survivors tw_227 hRH) (zq_preV (q0 := q0) hT (zq_Pl (zq_Pp (zl_p3 hp) hP)) hK (zq_Dl (zq_Dp (zl_p3 hp) hD)) rfl hc0) rfl rfl hl.1 rfl (lv_room (Nat.le_of_ble_eq_true rfl)) dW_1047 hcs0) hP hD hS hA (fun H locs hP hD hS => ?_)
  refine W.eq (g2 := F0 m 1050 ls [.int rv]) rfl ?_
  refine lv_aload_n hx hb dW_1050 rfl (lv_at hl 2 rfl) ?_
  refine zq_callP zl_pm zl_pm.symm (va_runV (Ts := []) (As := []) (own := RL) ⟨hx, hb, hml, hown, fun _ h => nomatch h⟩ (hM H.size) (zt_cv hT tc_M_survivors tv_M_survivors tw_820 hRM) (zq_preV (q0 := 0) hT (zq_Pl (zq_Pp zl_pm hP)) hK (zq_Dl (zq_Dp zl_pm hD)) rfl hm0) rfl rfl hl.1 rfl (lv_room (Nat.le_of_ble_eq_true rfl)) dW_1051 hcs0) hP hD hS hA (fun H locs hP hD hS => ?_)
  refine W.eq (g2 := F0 m 1054 ls [.int rv, .int rv]) rfl ?_
  refine zz_ieq (tgt := 1147) hx hb dW_1054 (by decide) (fun h21 => ?_) (fun h21 => ?_)
  · exact kk _ _ _ hP hD hS (lv_sub hl [0, 1, 2, 3, 4] rfl)
  · exact absurd hrv h21
