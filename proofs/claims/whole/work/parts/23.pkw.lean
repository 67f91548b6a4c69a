/-! 23.pkw -/
set_option maxHeartbeats 4000000 in
set_option maxRecDepth 100000 in
theorem ct_P_write (l : Launch) {dC : Nat → ClassId} {dI : Nat → Nat → Nat} {cJ cI cB cZ cS : ClassId} {sz : Nat} {q r : Nat} {row : Nat → Int32} {u n : Nat} {x : Int64} (hu : u + n ≤ 48) : Met l yP_write [Cond.code yP_write cP_write 6 none] { frames := 0, cells := 0, slots := 0, locals := 0 } (va_Pc [.ref q, .int (nI u), .long x, .int (nI n)] (zq_B (dC, dI) vcl (zz_T cJ cI cB cZ cS) (zp_W q r cB row) sz)) (zq_Q (dC, dI) vcl none (zp_W q r cB row) (zp_W q r cB (zp_wr row u x n n)) sz) 0 0 (va_A (zp_W q r cB row) sz) := by
  refine Met.ofW (cc := cP_write) (maxL := 6) (ret := none) (by decide) rfl ?_
  intro p e s m args below meth c s₁ B hml hv
  obtain ⟨rfl, hsz, hT, hP, hK, hD0⟩ := hv
  subst hsz
  have hx := B.exec
  have hb := B.bytes
  have hr := B.returns
  have hlocks := B.notSynchronized
  have hown : s.vm.findClass RP = some m.cls := findClass_of_methodNamed B.named
  have hD := hD0.self (sz := s.heap.size)
  generalize hAe : va_A (zp_W q r cB row) s.heap.size = A at hD ⊢
  have hA : ∀ q : Nat, s.heap.size ≤ q → A q := fun q h => by rw [← hAe]; exact Or.inr h
  have hS : va_S A s.heap s.heap [] := va_S.rf
  have hl := lv_entry ([.ref q, .int (nI u), .long x, .int (nI n)]) (n := 6) (Nat.le_of_ble_eq_true rfl)
  rw [lg_entry_eq]
  generalize (lg_sl ([.ref q, .int (nI u), .long x, .int (nI n)]) ++ List.replicate (6 - (lg_sl ([.ref q, .int (nI u), .long x, .int (nI n)])).length) Slot.unset).toArray = ls at hl ⊢
  have hl : lv_has ls 6 [(0, .ref q), (1, .int (nI u)), (2, .long x), (4, .int (nI n))] := hl
  refine lv_iconst (v := 0) hx hb dP_write_0 (by decide) ?_
  refine lv_istore (lv' := [(5, .int 0), (0, .ref q), (1, .int (nI u)), (2, .long x), (4, .int (nI n))]) hx hb dP_write_1 hl (by decide) rfl (fun ls hl => ?_)
  have lp : ∀ (k9 : Nat) (i : Nat) (H : Heap) (locs : List Loc), n - i < k9 → (i ≤ n) → va_P (dC, dI) vcl (zp_W q r cB (zp_wr row u x n i)) H → va_D A (zp_W q r cB (zp_wr row u x n i)) → va_S A s.heap H locs → ∀ ls : Array Slot, lv_has ls 6 [(0, .ref q), (1, .int (nI u)), (2, .long x), (4, .int (nI n)), (5, .int (nI i))] → W p l e ({ frames := 0, cells := 0, slots := 0, locals := 0 } : Room) s m ([.ref q, .int (nI u), .long x, .int (nI n)] : List Value).toArray below meth c H locs 0 0 (MQ below (zq_Q (dC, dI) vcl none (zp_W q r cB row) (zp_W q r cB (zp_wr row u x n n)) s.heap.size) ([.ref q, .int (nI u), .long x, .int (nI n)] : List Value).toArray s 0 0 A) (F0 m 3 ls []) := by
    intro k9
    induction k9 with
    | zero => intro i H locs hk9; exact absurd hk9 (Nat.not_lt_zero _)
    | succ k9 ih_lp =>
      intro i H locs hk9 hi hP hD hS ls hl
      refine lv_iload hx hb dP_write_3 (lv_at hl 4 rfl) ?_
      refine lv_iload hx hb dP_write_5 (lv_at hl 3 rfl) ?_
      refine zz_ige (tgt := 39) hx hb dP_write_7 (by decide) (fun h1 => ?_) (fun h1 => ?_)
      · have h1n := mt (zz_ltN (a := i) (b := n) rfl rfl (by omega) (by omega)).mpr h1
        exact zq_vret hx hb hr hlocks dP_write_39 hAe (by rw [show zp_wr row u x n n = zp_wr row u x n i from by rw [show i = n from (by omega)]]; exact hP) (by rw [show zp_wr row u x n n = zp_wr row u x n i from by rw [show i = n from (by omega)]]; exact hD) hS
      · have h1n := (zz_ltN (a := i) (b := n) rfl rfl (by omega) (by omega)).mp h1
        refine lv_aload_n hx hb dP_write_10 rfl (lv_at hl 0 rfl) ?_
        refine zz_getP hx hb hT hown hK hP 0 rfl 0 (by decide) tw_30 rfl dP_write_11 ?_
        refine lv_iload_n hx hb dP_write_14 rfl (lv_at hl 1 rfl) ?_
        refine lv_iload hx hb dP_write_15 (lv_at hl 4 rfl) ?_
        refine lv_iadd hx hb dP_write_17 ?_
        refine lv_lload_n hx hb dP_write_18 rfl (lv_at hl 2 rfl) ?_
        refine lv_bipush (v := 8) hx hb dP_write_19 (by decide) ?_
        refine lv_iload hx hb dP_write_21 (lv_at hl 3 rfl) ?_
        refine lv_iconst (v := 1) hx hb dP_write_23 (by decide) ?_
        refine lv_isub hx hb dP_write_24 ?_
        refine lv_iload hx hb dP_write_25 (lv_at hl 4 rfl) ?_
        refine lv_isub hx hb dP_write_27 ?_
        refine lv_imul hx hb dP_write_28 ?_
        refine lv_lshr (v := x >>> (Int32.toInt64 (8 * (((nI n) - 1) - (nI i))) &&& 63)) hx hb dP_write_29 rfl ?_
        refine lv_l2i (v := Int64.toInt32 (x >>> (Int32.toInt64 (8 * (((nI n) - 1) - (nI i))) &&& 63))) hx hb dP_write_30 rfl ?_
        refine lv_i2b (v := (Int32.toInt8 (Int64.toInt32 (x >>> (Int32.toInt64 (8 * (((nI n) - 1) - (nI i))) &&& 63)))).toInt32) hx hb dP_write_31 rfl ?_
        refine zq_bast hx hb hK hP hD hS 1 2 rfl rfl (u + i) (nI_add _ _) (by first | omega | decide | assumption) (by decide) (pk_vb _) dP_write_32 (fun H locs hP hD hS => ?_)
        have hP : va_P (dC, dI) vcl (zp_W q r cB (upd (zp_wr row u x n i) (u + i) ((Int32.toInt8 (Int64.toInt32 (x >>> (Int32.toInt64 (8 * (((nI n) - 1) - (nI i))) &&& 63)))).toInt32))) H := hP
        have hD : va_D A (zp_W q r cB (upd (zp_wr row u x n i) (u + i) ((Int32.toInt8 (Int64.toInt32 (x >>> (Int32.toInt64 (8 * (((nI n) - 1) - (nI i))) &&& 63)))).toInt32))) := hD
        refine lv_iinc (k := 4) (v := nI (i + 1)) (lv' := [(5, .int (nI (i + 1))), (0, .ref q), (1, .int (nI u)), (2, .long x), (4, .int (nI n))]) hx hb dP_write_33 hl rfl (nI_succ _).symm (by decide) rfl (fun ls hl => ?_)
        refine lv_goto (tgt := 3) hx hb dP_write_36 (by decide) ?_
        exact ih_lp (i + 1) _ _ (by omega) (by omega) (by rw [show zp_wr row u x n (i + 1) = upd (zp_wr row u x n i) (u + i) ((Int32.toInt8 (Int64.toInt32 (x >>> (Int32.toInt64 (8 * (((nI n) - 1) - (nI i))) &&& 63)))).toInt32) from rfl]; exact hP) (by rw [show zp_wr row u x n (i + 1) = upd (zp_wr row u x n i) (u + i) ((Int32.toInt8 (Int64.toInt32 (x >>> (Int32.toInt64 (8 * (((nI n) - 1) - (nI i))) &&& 63)))).toInt32) from rfl]; exact hD) hS _ (lv_sub hl [1, 2, 3, 4, 0] rfl)
  exact lp (n - 0 + 1) 0 _ _ (by omega) (Nat.zero_le _) (by rw [show zp_wr row u x n 0 = row from rfl]; exact hP) (by rw [show zp_wr row u x n 0 = row from rfl]; exact hD) hS _ (by rw [show nI 0 = 0 from rfl]; exact lv_sub hl [1, 2, 3, 4, 0] rfl)
