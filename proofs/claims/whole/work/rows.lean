section
-- ===== PART A: goes FIRST, ahead of the names: the tables' words, and 'selects' of the private methods out of them =====
/-- a private method of a class that the tables say can be made, by its rows of tables_1 -/
def lw_okq (q : MethodName × Nat) : Prop := (q.1.cls ≠ "java/lang/invoke/MethodHandle" ∧ q.1.cls ≠ "java/lang/invoke/VarHandle") ∧ Cond.instantiable q.1.cls q.2 ∈ tables_1 ∧ Cond.privateMethod q.1 ∈ tables_1 ∧ Cond.instanceMethod q.1 ∈ tables_1
theorem lw_p0 : lw_okq (⟨"StrataClient$Vote", "findCandidates", "([LStrataClient$Server;J)V"⟩, 6) := ⟨⟨by decide +kernel, by decide +kernel⟩, List.mem_of_getElem? (i := 91) (by decide +kernel), List.mem_of_getElem? (i := 157) (by decide +kernel), List.mem_of_getElem? (i := 158) (by decide +kernel)⟩
theorem lw_p1 : lw_okq (⟨"StrataClient$Server", "bestAt", "(J)I"⟩, 12) := ⟨⟨by decide +kernel, by decide +kernel⟩, List.mem_of_getElem? (i := 37) (by decide +kernel), List.mem_of_getElem? (i := 165) (by decide +kernel), List.mem_of_getElem? (i := 166) (by decide +kernel)⟩
theorem lw_p2 : lw_okq (⟨"StrataClient$Server", "distanceOf", "(IJ)J"⟩, 12) := ⟨⟨by decide +kernel, by decide +kernel⟩, List.mem_of_getElem? (i := 37) (by decide +kernel), List.mem_of_getElem? (i := 169) (by decide +kernel), List.mem_of_getElem? (i := 170) (by decide +kernel)⟩
theorem lw_p3 : lw_okq (⟨"StrataClient$Server", "farthestFrom", "(J)J"⟩, 12) := ⟨⟨by decide +kernel, by decide +kernel⟩, List.mem_of_getElem? (i := 37) (by decide +kernel), List.mem_of_getElem? (i := 182) (by decide +kernel), List.mem_of_getElem? (i := 183) (by decide +kernel)⟩
theorem lw_p4 : lw_okq (⟨"StrataClient$Vote", "findBounds", "()V"⟩, 6) := ⟨⟨by decide +kernel, by decide +kernel⟩, List.mem_of_getElem? (i := 91) (by decide +kernel), List.mem_of_getElem? (i := 193) (by decide +kernel), List.mem_of_getElem? (i := 194) (by decide +kernel)⟩
theorem lw_p5 : lw_okq (⟨"StrataClient$Vote", "isInMost", "(J)Z"⟩, 6) := ⟨⟨by decide +kernel, by decide +kernel⟩, List.mem_of_getElem? (i := 91) (by decide +kernel), List.mem_of_getElem? (i := 200) (by decide +kernel), List.mem_of_getElem? (i := 201) (by decide +kernel)⟩
theorem lw_p6 : lw_okq (⟨"StrataClient$Vote", "findSurvivors", "()V"⟩, 6) := ⟨⟨by decide +kernel, by decide +kernel⟩, List.mem_of_getElem? (i := 91) (by decide +kernel), List.mem_of_getElem? (i := 215) (by decide +kernel), List.mem_of_getElem? (i := 216) (by decide +kernel)⟩
theorem lw_p7 : lw_okq (⟨"StrataClient$Vote", "findFarthest", "()I"⟩, 6) := ⟨⟨by decide +kernel, by decide +kernel⟩, List.mem_of_getElem? (i := 91) (by decide +kernel), List.mem_of_getElem? (i := 219) (by decide +kernel), List.mem_of_getElem? (i := 220) (by decide +kernel)⟩
theorem lw_p8 : lw_okq (⟨"StrataClient$Vote", "spreadOf", "(I)J"⟩, 6) := ⟨⟨by decide +kernel, by decide +kernel⟩, List.mem_of_getElem? (i := 91) (by decide +kernel), List.mem_of_getElem? (i := 224) (by decide +kernel), List.mem_of_getElem? (i := 225) (by decide +kernel)⟩
theorem lw_p9 : lw_okq (⟨"java/lang/Throwable", "fillInStackTrace", "(I)Ljava/lang/Throwable;"⟩, 6) := ⟨⟨by decide +kernel, by decide +kernel⟩, List.mem_of_getElem? (i := 281) (by decide +kernel), List.mem_of_getElem? (i := 279) (by decide +kernel), List.mem_of_getElem? (i := 280) (by decide +kernel)⟩
theorem lw_p10 : lw_okq (⟨"StrataClient", "serverAt", "(I)LStrataClient$Server;"⟩, 6) := ⟨⟨by decide +kernel, by decide +kernel⟩, List.mem_of_getElem? (i := 17) (by decide +kernel), List.mem_of_getElem? (i := 344) (by decide +kernel), List.mem_of_getElem? (i := 345) (by decide +kernel)⟩
theorem lw_p11 : lw_okq (⟨"StrataClient", "takeTimes", "(LStrataClient$Server;)I"⟩, 6) := ⟨⟨by decide +kernel, by decide +kernel⟩, List.mem_of_getElem? (i := 17) (by decide +kernel), List.mem_of_getElem? (i := 414) (by decide +kernel), List.mem_of_getElem? (i := 415) (by decide +kernel)⟩
theorem lw_p12 : lw_okq (⟨"StrataClient", "sampledAt", "(I)LStrataClient$Server;"⟩, 6) := ⟨⟨by decide +kernel, by decide +kernel⟩, List.mem_of_getElem? (i := 17) (by decide +kernel), List.mem_of_getElem? (i := 470) (by decide +kernel), List.mem_of_getElem? (i := 471) (by decide +kernel)⟩
theorem lw_p13 : lw_okq (⟨"StrataClient$Vote", "isBetter", "([LStrataClient$Server;II)Z"⟩, 6) := ⟨⟨by decide +kernel, by decide +kernel⟩, List.mem_of_getElem? (i := 91) (by decide +kernel), List.mem_of_getElem? (i := 554) (by decide +kernel), List.mem_of_getElem? (i := 555) (by decide +kernel)⟩
theorem lw_p14 : lw_okq (⟨"StrataClient", "stepBy", "(J)V"⟩, 6) := ⟨⟨by decide +kernel, by decide +kernel⟩, List.mem_of_getElem? (i := 17) (by decide +kernel), List.mem_of_getElem? (i := 592) (by decide +kernel), List.mem_of_getElem? (i := 593) (by decide +kernel)⟩
theorem lw_p15 : lw_okq (⟨"StrataClient", "tunePolls", "(J)V"⟩, 6) := ⟨⟨by decide +kernel, by decide +kernel⟩, List.mem_of_getElem? (i := 17) (by decide +kernel), List.mem_of_getElem? (i := 600) (by decide +kernel), List.mem_of_getElem? (i := 601) (by decide +kernel)⟩
def lw_privs_1 : List (MethodName × Nat) := [(⟨"StrataClient$Vote", "findCandidates", "([LStrataClient$Server;J)V"⟩, 6), (⟨"StrataClient$Server", "bestAt", "(J)I"⟩, 12), (⟨"StrataClient$Server", "distanceOf", "(IJ)J"⟩, 12), (⟨"StrataClient$Server", "farthestFrom", "(J)J"⟩, 12), (⟨"StrataClient$Vote", "findBounds", "()V"⟩, 6), (⟨"StrataClient$Vote", "isInMost", "(J)Z"⟩, 6), (⟨"StrataClient$Vote", "findSurvivors", "()V"⟩, 6), (⟨"StrataClient$Vote", "findFarthest", "()I"⟩, 6), (⟨"StrataClient$Vote", "spreadOf", "(I)J"⟩, 6), (⟨"java/lang/Throwable", "fillInStackTrace", "(I)Ljava/lang/Throwable;"⟩, 6), (⟨"StrataClient", "serverAt", "(I)LStrataClient$Server;"⟩, 6), (⟨"StrataClient", "takeTimes", "(LStrataClient$Server;)I"⟩, 6), (⟨"StrataClient", "sampledAt", "(I)LStrataClient$Server;"⟩, 6), (⟨"StrataClient$Vote", "isBetter", "([LStrataClient$Server;II)Z"⟩, 6), (⟨"StrataClient", "stepBy", "(J)V"⟩, 6), (⟨"StrataClient", "tunePolls", "(J)V"⟩, 6)]
theorem lw_r1 : ∀ q ∈ lw_privs_1, lw_okq q := List.forall_mem_cons.mpr ⟨lw_p0, List.forall_mem_cons.mpr ⟨lw_p1, List.forall_mem_cons.mpr ⟨lw_p2, List.forall_mem_cons.mpr ⟨lw_p3, List.forall_mem_cons.mpr ⟨lw_p4, List.forall_mem_cons.mpr ⟨lw_p5, List.forall_mem_cons.mpr ⟨lw_p6, List.forall_mem_cons.mpr ⟨lw_p7, List.forall_mem_cons.mpr ⟨lw_p8, List.forall_mem_cons.mpr ⟨lw_p9, List.forall_mem_cons.mpr ⟨lw_p10, List.forall_mem_cons.mpr ⟨lw_p11, List.forall_mem_cons.mpr ⟨lw_p12, List.forall_mem_cons.mpr ⟨lw_p13, List.forall_mem_cons.mpr ⟨lw_p14, List.forall_mem_cons.mpr ⟨lw_p15, fun _ h => absurd h List.not_mem_nil⟩⟩⟩⟩⟩⟩⟩⟩⟩⟩⟩⟩⟩⟩⟩⟩
theorem lw_p16 : lw_okq (⟨"StrataClientModel", "write", "(IJI)V"⟩, 20) := ⟨⟨by decide +kernel, by decide +kernel⟩, List.mem_of_getElem? (i := 612) (by decide +kernel), List.mem_of_getElem? (i := 703) (by decide +kernel), List.mem_of_getElem? (i := 704) (by decide +kernel)⟩
theorem lw_p17 : lw_okq (⟨"StrataClientModel", "read", "(II)J"⟩, 20) := ⟨⟨by decide +kernel, by decide +kernel⟩, List.mem_of_getElem? (i := 612) (by decide +kernel), List.mem_of_getElem? (i := 723) (by decide +kernel), List.mem_of_getElem? (i := 724) (by decide +kernel)⟩
theorem lw_p18 : lw_okq (⟨"StrataClientModel", "kiss", "(I)I"⟩, 20) := ⟨⟨by decide +kernel, by decide +kernel⟩, List.mem_of_getElem? (i := 612) (by decide +kernel), List.mem_of_getElem? (i := 727) (by decide +kernel), List.mem_of_getElem? (i := 728) (by decide +kernel)⟩
theorem lw_p19 : lw_okq (⟨"StrataClientModel", "shows", "(I)Z"⟩, 20) := ⟨⟨by decide +kernel, by decide +kernel⟩, List.mem_of_getElem? (i := 612) (by decide +kernel), List.mem_of_getElem? (i := 756) (by decide +kernel), List.mem_of_getElem? (i := 757) (by decide +kernel)⟩
theorem lw_p20 : lw_okq (⟨"StrataClientModel", "offsetOf", "(I)J"⟩, 20) := ⟨⟨by decide +kernel, by decide +kernel⟩, List.mem_of_getElem? (i := 612) (by decide +kernel), List.mem_of_getElem? (i := 760) (by decide +kernel), List.mem_of_getElem? (i := 761) (by decide +kernel)⟩
theorem lw_p21 : lw_okq (⟨"StrataClientModel", "best", "(I)I"⟩, 20) := ⟨⟨by decide +kernel, by decide +kernel⟩, List.mem_of_getElem? (i := 612) (by decide +kernel), List.mem_of_getElem? (i := 764) (by decide +kernel), List.mem_of_getElem? (i := 765) (by decide +kernel)⟩
theorem lw_p22 : lw_okq (⟨"StrataClientModel", "dispersion", "(I)J"⟩, 20) := ⟨⟨by decide +kernel, by decide +kernel⟩, List.mem_of_getElem? (i := 612) (by decide +kernel), List.mem_of_getElem? (i := 769) (by decide +kernel), List.mem_of_getElem? (i := 770) (by decide +kernel)⟩
theorem lw_p23 : lw_okq (⟨"StrataClientModel", "jitterOf", "(I)J"⟩, 20) := ⟨⟨by decide +kernel, by decide +kernel⟩, List.mem_of_getElem? (i := 612) (by decide +kernel), List.mem_of_getElem? (i := 781) (by decide +kernel), List.mem_of_getElem? (i := 782) (by decide +kernel)⟩
theorem lw_p24 : lw_okq (⟨"StrataClientModel", "distanceOf", "(I)J"⟩, 20) := ⟨⟨by decide +kernel, by decide +kernel⟩, List.mem_of_getElem? (i := 612) (by decide +kernel), List.mem_of_getElem? (i := 792) (by decide +kernel), List.mem_of_getElem? (i := 793) (by decide +kernel)⟩
theorem lw_p25 : lw_okq (⟨"StrataClientModel", "isCandidate", "(I)Z"⟩, 20) := ⟨⟨by decide +kernel, by decide +kernel⟩, List.mem_of_getElem? (i := 612) (by decide +kernel), List.mem_of_getElem? (i := 800) (by decide +kernel), List.mem_of_getElem? (i := 801) (by decide +kernel)⟩
theorem lw_p26 : lw_okq (⟨"StrataClientModel", "majority", "()Z"⟩, 20) := ⟨⟨by decide +kernel, by decide +kernel⟩, List.mem_of_getElem? (i := 612) (by decide +kernel), List.mem_of_getElem? (i := 809) (by decide +kernel), List.mem_of_getElem? (i := 810) (by decide +kernel)⟩
theorem lw_p27 : lw_okq (⟨"StrataClientModel", "isCommon", "(J)Z"⟩, 20) := ⟨⟨by decide +kernel, by decide +kernel⟩, List.mem_of_getElem? (i := 612) (by decide +kernel), List.mem_of_getElem? (i := 813) (by decide +kernel), List.mem_of_getElem? (i := 814) (by decide +kernel)⟩
theorem lw_p28 : lw_okq (⟨"StrataClientModel", "survive", "()I"⟩, 20) := ⟨⟨by decide +kernel, by decide +kernel⟩, List.mem_of_getElem? (i := 612) (by decide +kernel), List.mem_of_getElem? (i := 825) (by decide +kernel), List.mem_of_getElem? (i := 826) (by decide +kernel)⟩
theorem lw_p29 : lw_okq (⟨"StrataClientModel", "spread", "(I)J"⟩, 20) := ⟨⟨by decide +kernel, by decide +kernel⟩, List.mem_of_getElem? (i := 612) (by decide +kernel), List.mem_of_getElem? (i := 830) (by decide +kernel), List.mem_of_getElem? (i := 831) (by decide +kernel)⟩
theorem lw_p30 : lw_okq (⟨"StrataClientModel", "peerOf", "()I"⟩, 20) := ⟨⟨by decide +kernel, by decide +kernel⟩, List.mem_of_getElem? (i := 612) (by decide +kernel), List.mem_of_getElem? (i := 838) (by decide +kernel), List.mem_of_getElem? (i := 839) (by decide +kernel)⟩
theorem lw_p31 : lw_okq (⟨"StrataClientModel", "combined", "(I)J"⟩, 20) := ⟨⟨by decide +kernel, by decide +kernel⟩, List.mem_of_getElem? (i := 612) (by decide +kernel), List.mem_of_getElem? (i := 846) (by decide +kernel), List.mem_of_getElem? (i := 847) (by decide +kernel)⟩
def lw_privs_2 : List (MethodName × Nat) := [(⟨"StrataClientModel", "write", "(IJI)V"⟩, 20), (⟨"StrataClientModel", "read", "(II)J"⟩, 20), (⟨"StrataClientModel", "kiss", "(I)I"⟩, 20), (⟨"StrataClientModel", "shows", "(I)Z"⟩, 20), (⟨"StrataClientModel", "offsetOf", "(I)J"⟩, 20), (⟨"StrataClientModel", "best", "(I)I"⟩, 20), (⟨"StrataClientModel", "dispersion", "(I)J"⟩, 20), (⟨"StrataClientModel", "jitterOf", "(I)J"⟩, 20), (⟨"StrataClientModel", "distanceOf", "(I)J"⟩, 20), (⟨"StrataClientModel", "isCandidate", "(I)Z"⟩, 20), (⟨"StrataClientModel", "majority", "()Z"⟩, 20), (⟨"StrataClientModel", "isCommon", "(J)Z"⟩, 20), (⟨"StrataClientModel", "survive", "()I"⟩, 20), (⟨"StrataClientModel", "spread", "(I)J"⟩, 20), (⟨"StrataClientModel", "peerOf", "()I"⟩, 20), (⟨"StrataClientModel", "combined", "(I)J"⟩, 20)]
theorem lw_r2 : ∀ q ∈ lw_privs_2, lw_okq q := List.forall_mem_cons.mpr ⟨lw_p16, List.forall_mem_cons.mpr ⟨lw_p17, List.forall_mem_cons.mpr ⟨lw_p18, List.forall_mem_cons.mpr ⟨lw_p19, List.forall_mem_cons.mpr ⟨lw_p20, List.forall_mem_cons.mpr ⟨lw_p21, List.forall_mem_cons.mpr ⟨lw_p22, List.forall_mem_cons.mpr ⟨lw_p23, List.forall_mem_cons.mpr ⟨lw_p24, List.forall_mem_cons.mpr ⟨lw_p25, List.forall_mem_cons.mpr ⟨lw_p26, List.forall_mem_cons.mpr ⟨lw_p27, List.forall_mem_cons.mpr ⟨lw_p28, List.forall_mem_cons.mpr ⟨lw_p29, List.forall_mem_cons.mpr ⟨lw_p30, List.forall_mem_cons.mpr ⟨lw_p31, fun _ h => absurd h List.not_mem_nil⟩⟩⟩⟩⟩⟩⟩⟩⟩⟩⟩⟩⟩⟩⟩⟩
theorem lw_p32 : lw_okq (⟨"StrataClientModel", "step", "(J)V"⟩, 20) := ⟨⟨by decide +kernel, by decide +kernel⟩, List.mem_of_getElem? (i := 612) (by decide +kernel), List.mem_of_getElem? (i := 852) (by decide +kernel), List.mem_of_getElem? (i := 853) (by decide +kernel)⟩
theorem lw_p33 : lw_okq (⟨"StrataClientModel", "slow", "(J)V"⟩, 20) := ⟨⟨by decide +kernel, by decide +kernel⟩, List.mem_of_getElem? (i := 612) (by decide +kernel), List.mem_of_getElem? (i := 856) (by decide +kernel), List.mem_of_getElem? (i := 857) (by decide +kernel)⟩
def lw_privs_3 : List (MethodName × Nat) := [(⟨"StrataClientModel", "step", "(J)V"⟩, 20), (⟨"StrataClientModel", "slow", "(J)V"⟩, 20)]
theorem lw_r3 : ∀ q ∈ lw_privs_3, lw_okq q := List.forall_mem_cons.mpr ⟨lw_p32, List.forall_mem_cons.mpr ⟨lw_p33, fun _ h => absurd h List.not_mem_nil⟩⟩
def lw_privs : List (MethodName × Nat) := lw_privs_1 ++ (lw_privs_2 ++ (lw_privs_3))
def lw_tbl : List Cond := k2_sels lw_privs ++ tables_1
theorem lw_privs_ok : ∀ q ∈ lw_privs, lw_okq q := by
  show ∀ q ∈ lw_privs_1 ++ (lw_privs_2 ++ (lw_privs_3)), lw_okq q
  exact List.forall_mem_append.mpr ⟨lw_r1, List.forall_mem_append.mpr ⟨lw_r2, lw_r3⟩⟩
end
section
/-! ===== BEGIN words of one list among another's, by their places ===== -/
theorem goodIn_r {big : List Cond} (ws : List Cond) (ps : List Nat) (hp : ws = ps.filterMap (fun i => big[i]?)) (h : ws.all goodWord = true) : GoodIn big ws := by
  intro w hw
  have h1 := List.all_eq_true.mp h w hw
  rw [hp] at hw
  obtain ⟨i, -, hi⟩ := List.mem_filterMap.mp hw
  have hm : w ∈ big := by first | exact List.mem_of_getElem? hi | exact List.getElem?_mem hi
  exact ⟨hm, good_of_word h1⟩
theorem goodIn_app {big a b : List Cond} (ha : GoodIn big a) (hb : GoodIn big b) : GoodIn big (a ++ b) := fun w h => (List.mem_append.mp h).elim (ha w) (hb w)
theorem goodIn_ca {big a b : List Cond} {c : Cond} (ha : GoodIn big (c :: a)) (hb : GoodIn big b) : GoodIn big (c :: (a ++ b)) := fun w h => (List.mem_cons.mp h).elim (fun e => ha w (List.mem_cons.mpr (Or.inl e))) (fun h => (List.mem_append.mp h).elim (fun h => ha w (List.mem_cons.mpr (Or.inr h))) (hb w))
theorem goodIn_sub {big ws : List Cond} (hm : ∀ w ∈ ws, w ∈ big) (h : ws.all goodWord = true) : GoodIn big ws := fun w hw => ⟨hm w hw, good_of_word (List.all_eq_true.mp h w hw)⟩
/-! ===== END ===== -/

/-! ===== BEGIN exceptions that leave a method, and their catching by the caller (launches without stack traces) ===== -/
section VXA
/-! The laws vx_back, vx_callV, vx_callS, vx_callSW, vx_throw0, vx_throwS follow proofs of the library, with one case more: JvmDerived/Free/Laws.lean (Back.of_free), Shelf42/LK1.lean (callV, callS), Shelf/KitTraced.lean (throwNew0V, throwNewS). -/
/-- where a method has thrown q: the class by its name, the cell, what was written, the world -/
def vx_T (XC : String → State → State → Prop) (st : State) (q : Addr) (t : State) (mc ms : Nat) (free : Addr → Prop) : Prop :=
  ∃ (E : String) (ce : Cell) (L : List Loc), XC E st t ∧ t.heap[q]? = some ce ∧ ce.vm = .none ∧ st.vm.findClass E = some ce.cls ∧ st.WarmedH t.vm ∧ st.sameButNew ({ t with vm := st.vm } : State) L mc ms ∧ ∀ z ∈ L, free z.base
def vx_Q (Qc : Array Value → State → Outcome → State → Prop) (XC : String → State → State → Prop) (mc ms : Nat) (free : Addr → Prop) : Array Value → State → Outcome → State → Prop := fun a st o t =>
  (Qc a st o t ∧ ∃ L, FrameEnd st o t L mc ms ∧ ∀ q ∈ L, free q.base) ∨ ∃ q, o = .threw q ∧ vx_T XC st q t mc ms free
/-- a callee that returns or throws -/
def vx_Met (l : Launch) (y : MethodName) (ws : List Cond) (rm : Room) (Pc : Array Value → State → Prop) (Qc : Array Value → State → Outcome → State → Prop) (XC : String → State → State → Prop) (mc ms : Nat) (free : Addr → Prop) : Prop :=
  MetFree l y (headSpec ws rm) Pc (fun _ _ _ _ _ => True) (vx_Q Qc XC mc ms free)
def vx_Post (XC : String → State → State → Prop) (mc ms : Nat) (free : Addr → Prop) : Pt → Array Value → Addr → Pt → Prop := fun A a q B =>
  ∃ (g : JFrame) (mk : MethodId) (t : State) (L : List Loc) (E : String) (ce : Cell), B.U.heap = t.heap ∧ B.U.vm = t.vm ∧ XC E (A.U.calling g mk a) t ∧ t.heap[q]? = some ce ∧ ce.vm = .none ∧ A.U.vm.findClass E = some ce.cls ∧ B.locs = A.locs ++ L ∧ (∀ z ∈ L, free z.base) ∧ B.cells = A.cells + mc ∧ B.slots = A.slots + ms
def vx_Back (l : Launch) (R : Room) (p : Program) (e : Env) (below : List Frame) (s : State) (sargs : Array Value) (y : MethodName) (len W9 : Nat)
    (Pre : Pt → Array Value → Prop) (Post : Pt → Array Value → Option Value → Pt → Prop) (PostX : Pt → Array Value → Addr → Pt → Prop) : Prop :=
  ∀ (m : MethodId) (meth : Method) (c : Code) (A : Pt) (g : JFrame) (ig : Instr) (mk : MethodId) (a : Array Value),
    Stand p l e R s m sargs below meth c A.U A.locs A.cells A.slots → g.method = m → g.locals.size = c.maxLocals → decode c.code g.pc = .ok (ig, len) →
    2 * g.monitorRoom + (g.stack.map fun v => v.category).sum ≤ W9 → A.U.methodNamed? y = some mk → Pre A a →
    (∃ (v : Option Value) (B : Pt), Stand p l e R s m sargs below meth c B.U B.locs B.cells B.slots ∧ Post A a v B ∧
      Steps p.tables e below (doInvoke e (A.U.setTop g) [] mk a).1 (B.U.setTop { g with pc := g.pc + len, stack := v.toList ++ g.stack })) ∨
    (∃ (q : Addr) (B : Pt), Stand p l e R s m sargs below meth c B.U B.locs B.cells B.slots ∧ PostX A a q B ∧
      Steps p.tables e below (doInvoke e (A.U.setTop g) [] mk a).1 ((B.U.setTop g).pushFrame (.throwing q)))
section Payer
variable {l : Launch} {R : Room} {p : Program} {e : Env} {below : List Frame} {s : State} {sargs : Array Value} {y : MethodName} {len W9 : Nat}
theorem vx_back {ws : List Cond} {rm : Room} {Pc : Array Value → State → Prop} {Qc : Array Value → State → Outcome → State → Prop} {XC : String → State → State → Prop} {mc ms : Nat} {free : Addr → Prop} {bytes : ByteArray} {maxL : Nat} {ret : Option FieldType}
    (hM : vx_Met l y ws rm Pc Qc XC mc ms free) (hblind : FrameBlind Pc) (hrc : rm.cells = mc) (hrs : rm.slots = ms)
    (hframes : rm.frames + 1 ≤ R.frames) (hlocals : W9 + (maxL + 11) + rm.locals ≤ R.locals)
    (hws : ∀ w ∈ ws, ∀ a' U, s.WarmedH U.vm → w.before a' U = true) (hcode : Cond.code y bytes maxL ret ∈ ws) (hinit : ∀ a' U, s.WarmedH U.vm → (Cond.initialized y.cls).before a' U = true) :
    vx_Back l R p e below s sargs y len W9 (PreOf R mc ms Pc) (PostOf Qc mc ms free) (vx_Post XC mc ms free) := by
  intro m meth c A g ig mk a X hg hsize hdg hW hn hp
  have h1 : (headSpec ws rm).pre.before a A.U = true := atoms_intro fun w hw => hws w hw _ _ X.warmed
  have h2 : (Cond.code y bytes maxL ret).before a A.U = true := hws _ hcode _ _ X.warmed
  have h3 : (Cond.initialized y.cls).before a A.U = true := hinit _ _ X.warmed
  have h4 : A.cells + (headSpec ws rm).room.cells ≤ R.cells := by rw [show (headSpec ws rm).room.cells = mc from hrc]; exact hp.1
  have h5 : A.slots + (headSpec ws rm).room.slots ≤ R.slots := by rw [show (headSpec ws rm).room.slots = ms from hrs]; exact hp.2.1
  have hPc : Pc a (A.U.calling g mk a) := hblind _ _ _ _ hp.2.2
  obtain ⟨U, Ls, c0, s0⟩ := A
  dsimp only [Pt.U, Pt.locs, Pt.cells, Pt.slots] at h1 h2 h3 h4 h5 X hn hPc ⊢
  obtain ⟨methY, cY, hmY, hcY, -, hlY, -, -, -, -⟩ := Cond.code_spec hn h2
  obtain ⟨kY, hkY, -⟩ := className_of_methodNamed hn
  have hinitY : kY.init = .initialized := Cond.initialized_spec (findClass_of_methodNamed hn) hkY h3
  have h : At U g.method c below := by rw [hg]; exact X.here
  have hlocals9 : W9 + (maxL + 11) + (headSpec ws rm).room.locals ≤ R.locals := hlocals
  have happ : (headSpec ws rm).appliesLoose y e.platform (U.calling g mk a) = true :=
    Spec.appliesLoose_calling (g := g) h hdg hn hkY hinitY
      (X.room_calling (g := g) (R' := (headSpec ws rm).room) hsize hmY hcY hframes (by rw [hlY]; omega) h4 h5) h1
  obtain ⟨mid, hmid⟩ := h.above
  have hfr : (U.setTop g).frames = (.java g :: mid) ++ below := by rw [State.frames_setTop' g h.top, hmid]; rfl
  obtain ⟨o, s₂, hsteps, -, hend, hq⟩ := Steps.callFree hM p X.admits X.cas X.clock (acts := []) hfr happ hPc trivial
  have hq' : vx_Q Qc XC mc ms free a (U.calling g mk a) o s₂ := hq
  rw [State.frames_setTop' g h.top] at hend
  obtain ⟨g₀, hg0⟩ := Option.isSome_iff_exists.mp h.top
  obtain ⟨r, hr⟩ := State.topJava?_eq_some.mp hg0
  have hr' : (({ U with heap := s₂.heap, slotsUsed := s₂.slotsUsed } : State).setVm s₂.vm).frames = .java g₀ :: r := hr
  rcases hq' with ⟨hqc, L, hfe, hL⟩ | ⟨q, rfl, E, ce, L, hx, hce, hcv, hcl, hW₂, hsm, hL⟩
  · obtain ⟨⟨v, rfl⟩, hW₂, e2, q2, q3, q4, q5, q6⟩ := id hfe
    have e3 : s₂ = ({ (U.calling g mk a).setFrames s₂.frames with heap := s₂.heap, slotsUsed := s₂.slotsUsed } : State).setVm s₂.vm := by
      have : s₂ = ({ s₂ with vm := (U.calling g mk a).vm } : State).setVm s₂.vm := rfl
      rw [e2] at this
      exact this
    obtain ⟨c₂, i₂, len₂, hc₂, hd₂, hf₂⟩ := hend
    have hW' : U.WarmedH s₂.vm := hW₂
    have hcc : c₂ = c := by
      have h1 : s₂.code? g.method = U.code? g.method := by
        rw [State.code?_eq, State.code?_eq, hW'.alike.method?]
      exact Option.some.inj (hc₂.symm.trans (h1.trans h.code))
    subst hcc
    have hlen : len₂ = len := by rw [hdg] at hd₂; cases hd₂; rfl
    subst hlen
    have hs₂ : s₂ = (({ U with heap := s₂.heap, slotsUsed := s₂.slotsUsed } : State).setVm s₂.vm).setTop { g with pc := g.pc + len₂, stack := v.toList ++ g.stack } := by
      refine e3.trans ?_
      rw [hf₂, State.calling_eq h.top, State.setFrames_setFrames, State.setTop_of_frames _ hr', hr]
      rfl
    have hsame : U.sameButNew ({ U with heap := s₂.heap, slotsUsed := s₂.slotsUsed } : State) L mc ms := by
      refine ⟨?_, q2, q3, q4, q5, q6⟩
      obtain ⟨t, ht, -⟩ := State.frames_cons hr
      show ({ U with heap := s₂.heap, slotsUsed := s₂.slotsUsed } : State) = { U.setFrames U.frames with heap := s₂.heap, slotsUsed := s₂.slotsUsed }
      rw [State.setFrames_self ht]
    subst hg
    refine Or.inl ⟨v, ⟨(({ U with heap := s₂.heap, slotsUsed := s₂.slotsUsed } : State).setVm s₂.vm), Ls ++ L, c0 + mc, s0 + ms⟩,
      ⟨X.admits, X.cas, X.clock, X.frames, X.room, X.hears, X.method, X.code, (X.here.setHeapUsed s₂.heap s₂.slotsUsed).setVm hW'.alike, X.tail, State.WarmedH.trans X.warmed hW', X.limits, X.bytes, X.same.trans (hsame.setVm s.vm)⟩,
      ⟨g, mk, s₂, L, rfl, rfl, hqc, rfl, hL, rfl, rfl⟩, ?_⟩
    show Steps p.tables e below _ ((({ U with heap := s₂.heap, slotsUsed := s₂.slotsUsed } : State).setVm s₂.vm).setTop { g with pc := g.pc + len₂, stack := v.toList ++ g.stack })
    rw [← hs₂]
    exact hsteps
  · obtain ⟨e2, q2, q3, q4, q5, q6⟩ := id hsm
    have e3 : s₂ = ({ (U.calling g mk a).setFrames s₂.frames with heap := s₂.heap, slotsUsed := s₂.slotsUsed } : State).setVm s₂.vm := by
      have : s₂ = ({ s₂ with vm := (U.calling g mk a).vm } : State).setVm s₂.vm := rfl
      rw [e2] at this
      exact this
    have hf₂ : s₂.frames = .throwing q :: .java g :: U.frames.tail := hend
    have hW' : U.WarmedH s₂.vm := hW₂
    have hs₂ : s₂ = ((({ U with heap := s₂.heap, slotsUsed := s₂.slotsUsed } : State).setVm s₂.vm).setTop g).pushFrame (.throwing q) := by
      refine e3.trans ?_
      rw [hf₂, State.calling_eq h.top, State.setFrames_setFrames, State.pushFrame, State.frames_setTop _ hr', State.setTop_of_frames _ hr', State.setFrames_setFrames, hr]
      rfl
    have hsame : U.sameButNew ({ U with heap := s₂.heap, slotsUsed := s₂.slotsUsed } : State) L mc ms := by
      refine ⟨?_, q2, q3, q4, q5, q6⟩
      obtain ⟨t, ht, -⟩ := State.frames_cons hr
      show ({ U with heap := s₂.heap, slotsUsed := s₂.slotsUsed } : State) = { U.setFrames U.frames with heap := s₂.heap, slotsUsed := s₂.slotsUsed }
      rw [State.setFrames_self ht]
    subst hg
    refine Or.inr ⟨q, ⟨(({ U with heap := s₂.heap, slotsUsed := s₂.slotsUsed } : State).setVm s₂.vm), Ls ++ L, c0 + mc, s0 + ms⟩,
      ⟨X.admits, X.cas, X.clock, X.frames, X.room, X.hears, X.method, X.code, (X.here.setHeapUsed s₂.heap s₂.slotsUsed).setVm hW'.alike, X.tail, State.WarmedH.trans X.warmed hW', X.limits, X.bytes, X.same.trans (hsame.setVm s.vm)⟩,
      ⟨g, mk, s₂, L, E, ce, rfl, rfl, hx, hce, hcv, hcl, rfl, hL, rfl, rfl⟩, ?_⟩
    show Steps p.tables e below _ (((({ U with heap := s₂.heap, slotsUsed := s₂.slotsUsed } : State).setVm s₂.vm).setTop g).pushFrame (.throwing q))
    rw [← hs₂]
    exact hsteps
end Payer
section Calls
variable {p : Program} {l : Launch} {e : Env} {R : Room} {s : State} {m : MethodId} {args : Array Value} {below : List Frame} {meth : Method} {c : Code} {T : State} {locs : List Loc} {cells slots : Nat}
theorem vx_callV (X : Stand p l e R s m args below meth c T locs cells slots) (hexec : p.tables.exec = Jvm.exec) {own C : String} {index : Nat} {y : MethodName} {bytes : ByteArray} {maxL : Nat} {ret : Option FieldType}
    (hown : s.vm.findClass own = some m.cls) (hlink : (Cond.methodLink own index y).before args s = true) (hinst : (Cond.instanceMethod y).before args s = true) (hsel : (Cond.selects C y y).before args s = true)
    (hcode : (Cond.code y bytes maxL ret).before args s = true) (hy : y.cls ≠ "java/lang/invoke/MethodHandle" ∧ y.cls ≠ "java/lang/invoke/VarHandle")
    {W9 : Nat} {Pre : Pt → Array Value → Prop} {Post : Pt → Array Value → Option Value → Pt → Prop} {PostX : Pt → Array Value → Addr → Pt → Prop} (hK : vx_Back l R p e below s args y 3 W9 Pre Post PostX)
    {b : Addr} {cellB : Cell} (hcell : T.heap[b]? = some cellB) (hobj : cellB.vm.isStatics = false) (hcls : s.vm.findClass C = some cellB.cls)
    {g : JFrame} (hg : g.method = m) (hsize : g.locals.size = c.maxLocals) {argsL rest : List Value} (hlen : ∀ sig, parseMethodDescriptor y.desc = some sig → argsL.length = sig.parameters.length)
    (hstack : g.stack = argsL.reverse ++ .ref b :: rest) (hW : 2 * g.monitorRoom + (rest.map fun v => v.category).sum ≤ W9) (hdg : decode c.code g.pc = .ok (.invokevirtual index, 3))
    (hpre : ∀ vm₁, s.WarmedH vm₁ → Pre ⟨T.setVm vm₁, locs, cells, slots⟩ (Value.ref b :: argsL).toArray) :
    (∃ (v : Option Value) (vm₁ : Vm) (B : Pt), s.WarmedH vm₁ ∧ Stand p l e R s m args below meth c B.U B.locs B.cells B.slots ∧ Post ⟨T.setVm vm₁, locs, cells, slots⟩ (Value.ref b :: argsL).toArray v B ∧
      ∀ target, Steps p.tables e below (B.U.setTop { g with pc := g.pc + 3, stack := v.toList ++ rest }) target → Steps p.tables e below (T.setTop g) target) ∨
    (∃ (q : Addr) (vm₁ : Vm) (B : Pt), s.WarmedH vm₁ ∧ Stand p l e R s m args below meth c B.U B.locs B.cells B.slots ∧ PostX ⟨T.setVm vm₁, locs, cells, slots⟩ (Value.ref b :: argsL).toArray q B ∧
      Steps p.tables e below (T.setTop g) ((B.U.setTop { g with stack := rest }).pushFrame (.throwing q))) := by
  obtain ⟨mk, methM, hnamed, hmethM, hstM, habM⟩ := Cond.instanceMethod_spec hinst
  obtain ⟨methM', cM, hmethM', -, -, -, -, -, -, hsigM⟩ := Cond.code_spec hnamed hcode
  cases hmethM.symm.trans hmethM'
  obtain ⟨c2, r2, m2, q1, q2, q3, q4, kP, hkP, hkPi⟩ := Cond.selects_spec hsel
  cases hcls.symm.trans q1
  cases (State.methodFound?_of_named hnamed hy).symm.trans q2
  cases hnamed.symm.trans q3
  have hselP : selectMethod e.platform s.vm cellB.cls mk = .method mk := by rw [Launch.admits_selectMethod X.admits]; exact q4
  obtain ⟨vm₁, X₁, hstep₁⟩ := X.invokevirtual hexec hown hlink hnamed hmethM hstM hkP hkPi hy (a := b) (cell := cellB) hcell
    (fun z h => by rw [h] at hobj; cases hobj) hselP hmethM habM hkP hkPi (g := g) hg (argsL := argsL) (rest := rest) (hlen _ hsigM) hstack hdg
  rcases hK m meth c ⟨T.setVm vm₁, locs, cells, slots⟩ { g with stack := rest } (.invokevirtual index) mk (Value.ref b :: argsL).toArray X₁ hg hsize hdg hW (X₁.named hnamed) (hpre vm₁ X₁.warmed) with ⟨v, B, X', hpost, hsteps⟩ | ⟨q, B, X', hpost, hsteps⟩
  · exact Or.inl ⟨v, vm₁, B, X₁.warmed, X', hpost, fun target h => hstep₁ _ fun acts => by rw [doInvoke_state]; exact hsteps.trans h⟩
  · exact Or.inr ⟨q, vm₁, B, X₁.warmed, X', hpost, hstep₁ _ fun acts => by rw [doInvoke_state]; exact hsteps⟩
theorem vx_callS (X : Stand p l e R s m args below meth c T locs cells slots) (hexec : p.tables.exec = Jvm.exec) {own : String} {index : Nat} {y : MethodName} {bytes : ByteArray} {maxL : Nat} {ret : Option FieldType}
    (hown : s.vm.findClass own = some m.cls) (hlink : (Cond.methodLink own index y).before args s = true) (hstat : (Cond.static y).before args s = true) (hinit : (Cond.initialized y.cls).before args s = true)
    (hcode : (Cond.code y bytes maxL ret).before args s = true) (hy : y.cls ≠ "java/lang/invoke/MethodHandle" ∧ y.cls ≠ "java/lang/invoke/VarHandle")
    {W9 : Nat} {Pre : Pt → Array Value → Prop} {Post : Pt → Array Value → Option Value → Pt → Prop} {PostX : Pt → Array Value → Addr → Pt → Prop} (hK : vx_Back l R p e below s args y 3 W9 Pre Post PostX)
    {g : JFrame} (hg : g.method = m) (hsize : g.locals.size = c.maxLocals) {argsL rest : List Value} (hlen : ∀ sig, parseMethodDescriptor y.desc = some sig → argsL.length = sig.parameters.length)
    (hstack : g.stack = argsL.reverse ++ rest) (hW : 2 * g.monitorRoom + (rest.map fun v => v.category).sum ≤ W9) (hdg : decode c.code g.pc = .ok (.invokestatic index, 3))
    (hpre : ∀ vm₁, s.WarmedH vm₁ → Pre ⟨T.setVm vm₁, locs, cells, slots⟩ argsL.toArray) :
    (∃ (v : Option Value) (vm₁ : Vm) (B : Pt), s.WarmedH vm₁ ∧ Stand p l e R s m args below meth c B.U B.locs B.cells B.slots ∧ Post ⟨T.setVm vm₁, locs, cells, slots⟩ argsL.toArray v B ∧
      ∀ target, Steps p.tables e below (B.U.setTop { g with pc := g.pc + 3, stack := v.toList ++ rest }) target → Steps p.tables e below (T.setTop g) target) ∨
    (∃ (q : Addr) (vm₁ : Vm) (B : Pt), s.WarmedH vm₁ ∧ Stand p l e R s m args below meth c B.U B.locs B.cells B.slots ∧ PostX ⟨T.setVm vm₁, locs, cells, slots⟩ argsL.toArray q B ∧
      Steps p.tables e below (T.setTop g) ((B.U.setTop { g with stack := rest }).pushFrame (.throwing q))) := by
  obtain ⟨mk, hnamed⟩ := Cond.code_named hcode
  obtain ⟨methM, cM, hmethM, -, -, -, -, -, -, hsigM⟩ := Cond.code_spec hnamed hcode
  have hstatic : methM.isStatic = true := Cond.static_spec hnamed hmethM hstat
  obtain ⟨kP, hkP, -⟩ := className_of_methodNamed hnamed
  have hinitP : kP.init = .initialized := Cond.initialized_spec (findClass_of_methodNamed hnamed) hkP hinit
  obtain ⟨vm₁, X₁, hstep₁⟩ := X.invokestatic hexec hown hlink hnamed hmethM hstatic hkP hinitP hy (g := g) hg (argsL := argsL) (rest := rest) (hlen _ hsigM) hstack hdg
  rcases hK m meth c ⟨T.setVm vm₁, locs, cells, slots⟩ { g with stack := rest } (.invokestatic index) mk argsL.toArray X₁ hg hsize hdg hW (X₁.named hnamed) (hpre vm₁ X₁.warmed) with ⟨v, B, X', hpost, hsteps⟩ | ⟨q, B, X', hpost, hsteps⟩
  · exact Or.inl ⟨v, vm₁, B, X₁.warmed, X', hpost, fun target h => hstep₁ _ fun acts => by rw [doInvoke_state]; exact hsteps.trans h⟩
  · exact Or.inr ⟨q, vm₁, B, X₁.warmed, X', hpost, hstep₁ _ fun acts => by rw [doInvoke_state]; exact hsteps⟩
end Calls
theorem vx_cls {s : State} {T : State} {vm₁ : Vm} {E : String} {k : ClassId} (hW : s.WarmedH vm₁) (h : (T.setVm vm₁).vm.findClass E = some k) : s.vm.findClass E = some k := by
  have h1 : vm₁.findClass E = some k := h
  rw [hW.alike.findClass] at h1
  exact h1
/-- the method's frame g, with q thrown over it -/
def vx_W (p : Program) (l : Launch) (e : Env) (R : Room) (s : State) (m : MethodId) (args : Array Value) (below : List Frame) (meth : Method) (c : Code) (H : Heap) (locs : List Loc) (cells slots : Nat) (Q : State → Prop) (g : JFrame) (q : Addr) : Prop :=
  ∀ T : State, T.heap = H → Stand p l e R s m args below meth c T locs cells slots → ∃ t, Steps p.tables e below ((T.setTop g).pushFrame (.throwing q)) t ∧ Q t
def vx_Run (p : Program) (l : Launch) (e : Env) (R : Room) (s : State) (m : MethodId) (args : Array Value) (below : List Frame) (meth : Method) (c : Code) (H : Heap) (locs : List Loc) (cells slots mc ms : Nat) (g : JFrame) (rest : List Value) (Qa : State → Outcome → State → Prop) (XC : String → State → State → Prop) (free : Addr → Prop) : Prop :=
  ∀ T : State, T.heap = H → Stand p l e R s m args below meth c T locs cells slots →
    (∃ (v : Option Value) (st₀ t T' : State) (L : List Loc), st₀.heap = H ∧ Stand p l e R s m args below meth c T' (locs ++ L) (cells + mc) (slots + ms) ∧ (∀ q ∈ L, free q.base) ∧ T'.heap = t.heap ∧ T'.vm = t.vm ∧ Qa st₀ (.returned v) t ∧
      Goes p e below T g T' { g with pc := g.pc + 3, stack := v.toList ++ rest }) ∨
    (∃ (q : Addr) (st₀ t T' : State) (L : List Loc) (E : String) (ce : Cell), st₀.heap = H ∧ Stand p l e R s m args below meth c T' (locs ++ L) (cells + mc) (slots + ms) ∧ (∀ z ∈ L, free z.base) ∧ T'.heap = t.heap ∧ T'.vm = t.vm ∧ XC E st₀ t ∧ t.heap[q]? = some ce ∧ ce.vm = .none ∧ s.vm.findClass E = some ce.cls ∧
      Steps p.tables e below (T.setTop g) ((T'.setTop { g with stack := rest }).pushFrame (.throwing q)))
def vx_X {S : Type} (px : S → Prop) (B : String → S → State → Prop) (A : Nat → Prop) : String → State → State → Prop := fun E st t => ∃ u : S, px u ∧ B E u t ∧ va_F A st t
section Runs
variable {p : Program} {l : Launch} {e : Env} {R : Room} {s : State} {m : MethodId} {args : Array Value} {below : List Frame} {meth : Method} {c : Code} {H : Heap} {locs : List Loc} {cells slots : Nat}
variable {y : MethodName} {bytes cc : ByteArray} {maxL nL mc ms n index : Nat} {ret : Option FieldType} {ws : List Cond} {rm : Room} {Pc : Array Value → State → Prop} {Qc : Array Value → State → Outcome → State → Prop} {XC : String → State → State → Prop} {free : Addr → Prop} {Ts : List Cond} {own C : String} {b : Addr} {As rest : List Value} {g : JFrame}
theorem vx_callBack (cb : CallB R s args own index y bytes maxL ret ws rm mc ms n) (hM : vx_Met l y ws rm Pc Qc XC mc ms free) (hbl : FrameBlind Pc) : vx_Back l R p e below s args y 3 8 (PreOf R mc ms Pc) (PostOf Qc mc ms free) (vx_Post XC mc ms free) := by
  obtain ⟨hrc, hrs, hfr, hlo, hws, hcw, -, hini, -⟩ := cb
  exact vx_back (bytes := bytes) (maxL := maxL) (ret := ret) hM hbl hrc hrs hfr hlo hws hcw (fun a' U hW => word_at hW (Or.inl (by first | rfl | simp [Cond.onTables, Cond.keeps, Cond.steady])) hini)
theorem vx_runV (S : CallFix p m c cc nL s args Ts own) (hM : vx_Met l y ws rm Pc Qc XC mc ms free) (cw : CallW R s args own C index y bytes maxL ret ws rm mc ms n) (hp : PreV s H C b Pc As)
    (hg : g.method = m) (hn : As.length = n) (hsize : g.locals.size = nL) (hstack : g.stack = As.reverse ++ .ref b :: rest) (hW : 2 * g.monitorRoom + (rest.map fun v => v.category).sum ≤ 8) (hdg : decode cc g.pc = .ok (.invokevirtual index, 3)) (hf : cells + mc ≤ R.cells ∧ slots + ms ≤ R.slots) :
    vx_Run p l e R s m args below meth c H locs cells slots mc ms g rest (Qc (Value.ref b :: As).toArray) XC free := by
  have hK : vx_Back l R p e below s args y 3 8 (PreOf R mc ms Pc) (PostOf Qc mc ms free) (vx_Post XC mc ms free) := vx_callBack cw.1 hM hp.1
  obtain ⟨⟨-, -, -, -, -, -, hcode, -, hy, hlen, hl⟩, hin, hse⟩ := cw
  obtain ⟨hx, hb, hml, ho, -⟩ := S
  obtain ⟨-, ⟨cellB, hcB, hoB, hclB⟩, hPc⟩ := hp
  intro T hT X
  rcases vx_callV X hx (C := C) (bytes := bytes) (maxL := maxL) (ret := ret) ho hl hin hse hcode hy hK (by rw [hT]; exact hcB) hoB hclB hg (hsize.trans hml.symm) (argsL := As) (rest := rest) (fun sig h => hn.trans (hlen sig h)) hstack hW (by rw [hb]; exact hdg)
    (fun vm₁ hW₁ => ⟨hf.1, hf.2, hPc (T.setVm vm₁) hT hW₁⟩) with ⟨v, vm₁, ⟨U', l2, c2, s2⟩, hW₁, X', ⟨g', mk, t, L, e1, e2, hq, h1, hL, h2, h3⟩, st⟩ | ⟨q, vm₁, ⟨U', l2, c2, s2⟩, hW₁, X', ⟨g', mk, t, L, E, ce, e1, e2, hq, hce, hcv, hcl, h1, hL, h2, h3⟩, st⟩
  · dsimp only [Pt.U, Pt.locs, Pt.cells, Pt.slots] at X' e1 e2 h1 h2 h3 st
    subst h1; subst h2; subst h3
    exact Or.inl ⟨v, (T.setVm vm₁).calling g' mk (Value.ref b :: As).toArray, t, U', L, hT, X', hL, e1, e2, hq, st⟩
  · dsimp only [Pt.U, Pt.locs, Pt.cells, Pt.slots] at X' e1 e2 h1 h2 h3 st hcl
    subst h1; subst h2; subst h3
    exact Or.inr ⟨q, (T.setVm vm₁).calling g' mk (Value.ref b :: As).toArray, t, U', L, E, ce, hT, X', hL, e1, e2, hq, hce, hcv, vx_cls hW₁ hcl, st⟩
theorem vx_runS (S : CallFix p m c cc nL s args Ts own) (hM : vx_Met l y ws rm Pc Qc XC mc ms free) (cw : CallB R s args own index y bytes maxL ret ws rm mc ms n ∧ (Cond.static y).before args s = true) (hp : PreS s H Pc As)
    (hg : g.method = m) (hn : As.length = n) (hsize : g.locals.size = nL) (hstack : g.stack = As.reverse ++ rest) (hW : 2 * g.monitorRoom + (rest.map fun v => v.category).sum ≤ 8) (hdg : decode cc g.pc = .ok (.invokestatic index, 3)) (hf : cells + mc ≤ R.cells ∧ slots + ms ≤ R.slots) :
    vx_Run p l e R s m args below meth c H locs cells slots mc ms g rest (Qc As.toArray) XC free := by
  have hK : vx_Back l R p e below s args y 3 8 (PreOf R mc ms Pc) (PostOf Qc mc ms free) (vx_Post XC mc ms free) := vx_callBack cw.1 hM hp.1
  obtain ⟨⟨-, -, -, -, -, -, hcode, hini, hy, hlen, hl⟩, hstt⟩ := cw
  obtain ⟨hx, hb, hml, ho, -⟩ := S
  intro T hT X
  rcases vx_callS X hx (bytes := bytes) (maxL := maxL) (ret := ret) ho hl hstt hini hcode hy hK hg (hsize.trans hml.symm) (argsL := As) (rest := rest) (fun sig h => hn.trans (hlen sig h)) hstack hW (by rw [hb]; exact hdg)
    (fun vm₁ hW₁ => ⟨hf.1, hf.2, hp.2 (T.setVm vm₁) hT hW₁⟩) with ⟨v, vm₁, ⟨U', l2, c2, s2⟩, hW₁, X', ⟨g', mk, t, L, e1, e2, hq, h1, hL, h2, h3⟩, st⟩ | ⟨q, vm₁, ⟨U', l2, c2, s2⟩, hW₁, X', ⟨g', mk, t, L, E, ce, e1, e2, hq, hce, hcv, hcl, h1, hL, h2, h3⟩, st⟩
  · dsimp only [Pt.U, Pt.locs, Pt.cells, Pt.slots] at X' e1 e2 h1 h2 h3 st
    subst h1; subst h2; subst h3
    exact Or.inl ⟨v, (T.setVm vm₁).calling g' mk As.toArray, t, U', L, hT, X', hL, e1, e2, hq, st⟩
  · dsimp only [Pt.U, Pt.locs, Pt.cells, Pt.slots] at X' e1 e2 h1 h2 h3 st hcl
    subst h1; subst h2; subst h3
    exact Or.inr ⟨q, (T.setVm vm₁).calling g' mk As.toArray, t, U', L, E, ce, hT, X', hL, e1, e2, hq, hce, hcv, vx_cls hW₁ hcl, st⟩
end Runs
section Rows
variable {p : Program} {l : Launch} {e : Env} {R : Room} {s : State} {m : MethodId} {args : Array Value} {below : List Frame} {meth : Method} {c : Code} {H : Heap} {locs : List Loc} {cells slots : Nat} {Q : State → Prop}
variable {mc ms : Nat} {free : Addr → Prop} {A0 A1 : Nat → Prop} {H0 : Heap} {a : Array Value} {pc : Nat} {ls : Array Slot} {st0 rest : List Value}
theorem vx_keep {st₀ t T' : State} {L : List Loc} (h0 : st₀.heap = H) (e1 : T'.heap = t.heap) (hS : va_S A0 H0 H locs) (hA : ∀ q, q < H.size → A1 q → A0 q) (hf : ∀ q, free q → A0 q) (hL : ∀ q ∈ L, free q.base) (hF : va_F A1 st₀ t) :
    H.size ≤ T'.heap.size ∧ (∀ q : Nat, q < H.size → ¬ A1 q → T'.heap[q]? = H[q]?) ∧ va_S A0 H0 T'.heap (locs ++ L) := by
  obtain ⟨hz, hk⟩ := hF
  rw [h0] at hz hk
  exact ⟨by rw [e1]; exact hz, fun q h1 h2 => by rw [e1]; exact hk q h1 h2,
    ⟨Nat.le_trans hS.1 (by rw [e1]; exact hz), fun q h1 h2 => by rw [e1, hk q (Nat.lt_of_lt_of_le h1 hS.1) (fun z => h2 (hA q (Nat.lt_of_lt_of_le h1 hS.1) z))]; exact hS.2.1 q h1 h2, fun q hq => by
      rcases List.mem_append.mp hq with h | h
      · exact hS.2.2 q h
      · exact hf _ (hL q h)⟩⟩
theorem vx_calli {S SX : Type} {post : Int32 → S → Prop} {px : SX → Prop} {B : S → State → Prop} {BX : String → SX → State → Prop} {AX : Nat → Prop} (hr : vx_Run p l e R s m args below meth c H locs cells slots mc ms (F0 m pc ls st0) rest (va_Qi post B A1 a) (vx_X px BX AX) free) (hS : va_S A0 H0 H locs) (hA : ∀ q, q < H.size → A1 q → A0 q) (hf : ∀ q, free q → A0 q) (hAX : ∀ q, q < H.size → AX q → A0 q)
    (kx : ∀ (E : String) (ce : Cell) (q9 : Addr) (u : SX) (t : State) (H1 : Heap) (locs1 : List Loc), t.heap = H1 → s.vm.Alike t.vm → px u → BX E u t → H.size ≤ H1.size → (∀ q : Nat, q < H.size → ¬ AX q → H1[q]? = H[q]?) → va_S A0 H0 H1 locs1 → H1[q9]? = some ce → ce.vm = .none → s.vm.findClass E = some ce.cls → vx_W p l e R s m args below meth c H1 locs1 (cells + mc) (slots + ms) Q (F0 m pc ls rest) q9)
    (kk : ∀ (r : Int32) (u : S) (t : State) (H1 : Heap) (locs1 : List Loc), t.heap = H1 → s.vm.Alike t.vm → post r u → B u t → H.size ≤ H1.size → (∀ q : Nat, q < H.size → ¬ A1 q → H1[q]? = H[q]?) → va_S A0 H0 H1 locs1 → W p l e R s m args below meth c H1 locs1 (cells + mc) (slots + ms) Q (F0 m (pc + 3) ls (.int r :: rest))) : W p l e R s m args below meth c H locs cells slots Q (F0 m pc ls st0) := by
  intro T hT X
  rcases hr T hT X with ⟨v, st₀, t, T', L, h0, X', hL, e1, e2, ⟨⟨r, u, hv, hp, hb⟩, hF⟩, st⟩ | ⟨q, st₀, t, T', L, E, ce, h0, X', hL, e1, e2, ⟨u, hp, hb, hF⟩, hce, hcv, hcl, st⟩
  · cases hv
    obtain ⟨k1, k2, k3⟩ := vx_keep h0 e1 hS hA hf hL hF
    obtain ⟨t2, a1, b1⟩ := kk r u t T'.heap (locs ++ L) e1.symm (by rw [← e2]; exact X'.warmed.alike) hp hb k1 k2 k3 T' rfl X'
    exact ⟨t2, st t2 a1, b1⟩
  · obtain ⟨k1, k2, k3⟩ := vx_keep h0 e1 hS hAX hf hL hF
    obtain ⟨t2, a1, b1⟩ := kx E ce q u t T'.heap (locs ++ L) e1.symm (by rw [← e2]; exact X'.warmed.alike) hp hb k1 k2 k3 (by rw [e1]; exact hce) hcv hcl T' rfl X'
    exact ⟨t2, st.trans a1, b1⟩
theorem vx_calll {S SX : Type} {post : Int64 → S → Prop} {px : SX → Prop} {B : S → State → Prop} {BX : String → SX → State → Prop} {AX : Nat → Prop} (hr : vx_Run p l e R s m args below meth c H locs cells slots mc ms (F0 m pc ls st0) rest (va_Ql post B A1 a) (vx_X px BX AX) free) (hS : va_S A0 H0 H locs) (hA : ∀ q, q < H.size → A1 q → A0 q) (hf : ∀ q, free q → A0 q) (hAX : ∀ q, q < H.size → AX q → A0 q)
    (kx : ∀ (E : String) (ce : Cell) (q9 : Addr) (u : SX) (t : State) (H1 : Heap) (locs1 : List Loc), t.heap = H1 → s.vm.Alike t.vm → px u → BX E u t → H.size ≤ H1.size → (∀ q : Nat, q < H.size → ¬ AX q → H1[q]? = H[q]?) → va_S A0 H0 H1 locs1 → H1[q9]? = some ce → ce.vm = .none → s.vm.findClass E = some ce.cls → vx_W p l e R s m args below meth c H1 locs1 (cells + mc) (slots + ms) Q (F0 m pc ls rest) q9)
    (kk : ∀ (r : Int64) (u : S) (t : State) (H1 : Heap) (locs1 : List Loc), t.heap = H1 → s.vm.Alike t.vm → post r u → B u t → H.size ≤ H1.size → (∀ q : Nat, q < H.size → ¬ A1 q → H1[q]? = H[q]?) → va_S A0 H0 H1 locs1 → W p l e R s m args below meth c H1 locs1 (cells + mc) (slots + ms) Q (F0 m (pc + 3) ls (.long r :: rest))) : W p l e R s m args below meth c H locs cells slots Q (F0 m pc ls st0) := by
  intro T hT X
  rcases hr T hT X with ⟨v, st₀, t, T', L, h0, X', hL, e1, e2, ⟨⟨r, u, hv, hp, hb⟩, hF⟩, st⟩ | ⟨q, st₀, t, T', L, E, ce, h0, X', hL, e1, e2, ⟨u, hp, hb, hF⟩, hce, hcv, hcl, st⟩
  · cases hv
    obtain ⟨k1, k2, k3⟩ := vx_keep h0 e1 hS hA hf hL hF
    obtain ⟨t2, a1, b1⟩ := kk r u t T'.heap (locs ++ L) e1.symm (by rw [← e2]; exact X'.warmed.alike) hp hb k1 k2 k3 T' rfl X'
    exact ⟨t2, st t2 a1, b1⟩
  · obtain ⟨k1, k2, k3⟩ := vx_keep h0 e1 hS hAX hf hL hF
    obtain ⟨t2, a1, b1⟩ := kx E ce q u t T'.heap (locs ++ L) e1.symm (by rw [← e2]; exact X'.warmed.alike) hp hb k1 k2 k3 (by rw [e1]; exact hce) hcv hcl T' rfl X'
    exact ⟨t2, st.trans a1, b1⟩
theorem vx_callf {S SX : Type} {post : UInt32 → S → Prop} {px : SX → Prop} {B : S → State → Prop} {BX : String → SX → State → Prop} {AX : Nat → Prop} (hr : vx_Run p l e R s m args below meth c H locs cells slots mc ms (F0 m pc ls st0) rest (va_Qf post B A1 a) (vx_X px BX AX) free) (hS : va_S A0 H0 H locs) (hA : ∀ q, q < H.size → A1 q → A0 q) (hf : ∀ q, free q → A0 q) (hAX : ∀ q, q < H.size → AX q → A0 q)
    (kx : ∀ (E : String) (ce : Cell) (q9 : Addr) (u : SX) (t : State) (H1 : Heap) (locs1 : List Loc), t.heap = H1 → s.vm.Alike t.vm → px u → BX E u t → H.size ≤ H1.size → (∀ q : Nat, q < H.size → ¬ AX q → H1[q]? = H[q]?) → va_S A0 H0 H1 locs1 → H1[q9]? = some ce → ce.vm = .none → s.vm.findClass E = some ce.cls → vx_W p l e R s m args below meth c H1 locs1 (cells + mc) (slots + ms) Q (F0 m pc ls rest) q9)
    (kk : ∀ (r : UInt32) (u : S) (t : State) (H1 : Heap) (locs1 : List Loc), t.heap = H1 → s.vm.Alike t.vm → post r u → B u t → H.size ≤ H1.size → (∀ q : Nat, q < H.size → ¬ A1 q → H1[q]? = H[q]?) → va_S A0 H0 H1 locs1 → W p l e R s m args below meth c H1 locs1 (cells + mc) (slots + ms) Q (F0 m (pc + 3) ls (.float r :: rest))) : W p l e R s m args below meth c H locs cells slots Q (F0 m pc ls st0) := by
  intro T hT X
  rcases hr T hT X with ⟨v, st₀, t, T', L, h0, X', hL, e1, e2, ⟨⟨r, u, hv, hp, hb⟩, hF⟩, st⟩ | ⟨q, st₀, t, T', L, E, ce, h0, X', hL, e1, e2, ⟨u, hp, hb, hF⟩, hce, hcv, hcl, st⟩
  · cases hv
    obtain ⟨k1, k2, k3⟩ := vx_keep h0 e1 hS hA hf hL hF
    obtain ⟨t2, a1, b1⟩ := kk r u t T'.heap (locs ++ L) e1.symm (by rw [← e2]; exact X'.warmed.alike) hp hb k1 k2 k3 T' rfl X'
    exact ⟨t2, st t2 a1, b1⟩
  · obtain ⟨k1, k2, k3⟩ := vx_keep h0 e1 hS hAX hf hL hF
    obtain ⟨t2, a1, b1⟩ := kx E ce q u t T'.heap (locs ++ L) e1.symm (by rw [← e2]; exact X'.warmed.alike) hp hb k1 k2 k3 (by rw [e1]; exact hce) hcv hcl T' rfl X'
    exact ⟨t2, st.trans a1, b1⟩
theorem vx_calld {S SX : Type} {post : UInt64 → S → Prop} {px : SX → Prop} {B : S → State → Prop} {BX : String → SX → State → Prop} {AX : Nat → Prop} (hr : vx_Run p l e R s m args below meth c H locs cells slots mc ms (F0 m pc ls st0) rest (va_Qd post B A1 a) (vx_X px BX AX) free) (hS : va_S A0 H0 H locs) (hA : ∀ q, q < H.size → A1 q → A0 q) (hf : ∀ q, free q → A0 q) (hAX : ∀ q, q < H.size → AX q → A0 q)
    (kx : ∀ (E : String) (ce : Cell) (q9 : Addr) (u : SX) (t : State) (H1 : Heap) (locs1 : List Loc), t.heap = H1 → s.vm.Alike t.vm → px u → BX E u t → H.size ≤ H1.size → (∀ q : Nat, q < H.size → ¬ AX q → H1[q]? = H[q]?) → va_S A0 H0 H1 locs1 → H1[q9]? = some ce → ce.vm = .none → s.vm.findClass E = some ce.cls → vx_W p l e R s m args below meth c H1 locs1 (cells + mc) (slots + ms) Q (F0 m pc ls rest) q9)
    (kk : ∀ (r : UInt64) (u : S) (t : State) (H1 : Heap) (locs1 : List Loc), t.heap = H1 → s.vm.Alike t.vm → post r u → B u t → H.size ≤ H1.size → (∀ q : Nat, q < H.size → ¬ A1 q → H1[q]? = H[q]?) → va_S A0 H0 H1 locs1 → W p l e R s m args below meth c H1 locs1 (cells + mc) (slots + ms) Q (F0 m (pc + 3) ls (.double r :: rest))) : W p l e R s m args below meth c H locs cells slots Q (F0 m pc ls st0) := by
  intro T hT X
  rcases hr T hT X with ⟨v, st₀, t, T', L, h0, X', hL, e1, e2, ⟨⟨r, u, hv, hp, hb⟩, hF⟩, st⟩ | ⟨q, st₀, t, T', L, E, ce, h0, X', hL, e1, e2, ⟨u, hp, hb, hF⟩, hce, hcv, hcl, st⟩
  · cases hv
    obtain ⟨k1, k2, k3⟩ := vx_keep h0 e1 hS hA hf hL hF
    obtain ⟨t2, a1, b1⟩ := kk r u t T'.heap (locs ++ L) e1.symm (by rw [← e2]; exact X'.warmed.alike) hp hb k1 k2 k3 T' rfl X'
    exact ⟨t2, st t2 a1, b1⟩
  · obtain ⟨k1, k2, k3⟩ := vx_keep h0 e1 hS hAX hf hL hF
    obtain ⟨t2, a1, b1⟩ := kx E ce q u t T'.heap (locs ++ L) e1.symm (by rw [← e2]; exact X'.warmed.alike) hp hb k1 k2 k3 (by rw [e1]; exact hce) hcv hcl T' rfl X'
    exact ⟨t2, st.trans a1, b1⟩
theorem vx_callv {S SX : Type} {post : S → Prop} {px : SX → Prop} {B : S → State → Prop} {BX : String → SX → State → Prop} {AX : Nat → Prop} (hr : vx_Run p l e R s m args below meth c H locs cells slots mc ms (F0 m pc ls st0) rest (va_Qv post B A1 a) (vx_X px BX AX) free) (hS : va_S A0 H0 H locs) (hA : ∀ q, q < H.size → A1 q → A0 q) (hf : ∀ q, free q → A0 q) (hAX : ∀ q, q < H.size → AX q → A0 q)
    (kx : ∀ (E : String) (ce : Cell) (q9 : Addr) (u : SX) (t : State) (H1 : Heap) (locs1 : List Loc), t.heap = H1 → s.vm.Alike t.vm → px u → BX E u t → H.size ≤ H1.size → (∀ q : Nat, q < H.size → ¬ AX q → H1[q]? = H[q]?) → va_S A0 H0 H1 locs1 → H1[q9]? = some ce → ce.vm = .none → s.vm.findClass E = some ce.cls → vx_W p l e R s m args below meth c H1 locs1 (cells + mc) (slots + ms) Q (F0 m pc ls rest) q9)
    (kk : ∀ (u : S) (t : State) (H1 : Heap) (locs1 : List Loc), t.heap = H1 → s.vm.Alike t.vm → post u → B u t → H.size ≤ H1.size → (∀ q : Nat, q < H.size → ¬ A1 q → H1[q]? = H[q]?) → va_S A0 H0 H1 locs1 → W p l e R s m args below meth c H1 locs1 (cells + mc) (slots + ms) Q (F0 m (pc + 3) ls (rest))) : W p l e R s m args below meth c H locs cells slots Q (F0 m pc ls st0) := by
  intro T hT X
  rcases hr T hT X with ⟨v, st₀, t, T', L, h0, X', hL, e1, e2, ⟨⟨u, hv, hp, hb⟩, hF⟩, st⟩ | ⟨q, st₀, t, T', L, E, ce, h0, X', hL, e1, e2, ⟨u, hp, hb, hF⟩, hce, hcv, hcl, st⟩
  · cases hv
    obtain ⟨k1, k2, k3⟩ := vx_keep h0 e1 hS hA hf hL hF
    obtain ⟨t2, a1, b1⟩ := kk u t T'.heap (locs ++ L) e1.symm (by rw [← e2]; exact X'.warmed.alike) hp hb k1 k2 k3 T' rfl X'
    exact ⟨t2, st t2 a1, b1⟩
  · obtain ⟨k1, k2, k3⟩ := vx_keep h0 e1 hS hAX hf hL hF
    obtain ⟨t2, a1, b1⟩ := kx E ce q u t T'.heap (locs ++ L) e1.symm (by rw [← e2]; exact X'.warmed.alike) hp hb k1 k2 k3 (by rw [e1]; exact hce) hcv hcl T' rfl X'
    exact ⟨t2, st.trans a1, b1⟩
/-- caught by the row x of this method's table; the rows ahead don't take it -/
theorem vx_catch {own name : String} {E : String} {ce : Cell} {q : Addr} (hown : s.vm.findClass own = some m.cls) (pre : List ExceptionTableEntry) (x : ExceptionTableEntry) (suf : List ExceptionTableEntry) (hsplit : c.exceptionTable.toList = pre ++ x :: suf)
    (hpass : ∀ z ∈ pre, covers z pc = false ∨ (z.catchType ≠ 0 ∧ ∃ nm : String, (Cond.classLink own z.catchType nm).before args s = true ∧ va_Nc E nm s)) (hx : covers x pc = true) (h0 : x.catchType ≠ 0)
    (hlink : (Cond.classLink own x.catchType name).before args s = true) (hcast : (Cond.castable E name).before args s = true) (hcell : H[q]? = some ce) (hv : ce.vm = .none) (hcl : s.vm.findClass E = some ce.cls)
    (kk : W p l e R s m args below meth c H locs cells slots Q (F0 m x.handlerPc ls [.ref q])) : vx_W p l e R s m args below meth c H locs cells slots Q (F0 m pc ls rest) q := by
  intro T hT X
  have hpl : e.platform.magicAccessors = ({} : Platform).magicAccessors := by rw [X.admits.platform]
  obtain ⟨c3, c4, hc3, hc4, hasg⟩ := Cond.castable_spec hcast
  cases Option.some.inj (hc3.symm.trans hcl)
  obtain ⟨c5, hc5, hcl5⟩ := Cond.classLink_spec hown hlink e.platform hpl
  cases Option.some.inj (hc4.symm.trans hc5)
  obtain ⟨vm', X', st⟩ := X.thenCaughtThrough q (g := F0 m pc ls rest) rfl (Steps.refl _) (by rw [hT]; exact hcell) (by rw [hv]; rfl) (by obtain ⟨k9, h9, -⟩ := Vm.findClass_spec hcl; exact ⟨k9, h9⟩) pre x suf hsplit
    (fun z hz => by
      rcases hpass z hz with h | ⟨hz0, nm, hl1, hn1⟩
      · exact Or.inl h
      · obtain ⟨c6, hc6, hcl6⟩ := Cond.classLink_spec hown hl1 e.platform hpl
        obtain ⟨a8, b8, h1, h2, h3⟩ := hn1
        cases Option.some.inj (h1.symm.trans hcl)
        cases Option.some.inj (h2.symm.trans hc6)
        exact Or.inr ⟨hz0, _, hcl6, h3⟩) hx (Or.inr ⟨h0, c4, hcl5, hasg⟩)
  obtain ⟨t, a1, b1⟩ := kk (T.setVm vm') hT X'
  exact ⟨t, st.trans a1, b1⟩
end Rows
section Ends
variable {p : Program} {l : Launch} {e : Env} {R : Room} {s : State} {m : MethodId} {args : Array Value} {below : List Frame} {meth : Method} {c : Code} {H : Heap} {locs : List Loc} {cells slots : Nat} {Q : State → Prop}
variable {mc ms : Nat} {free : Addr → Prop} {A0 A1 : Nat → Prop} {H0 : Heap} {a : Array Value} {ls : Array Slot} {st0 rest : List Value}
variable {Qc : Array Value → State → Outcome → State → Prop} {XC : String → State → State → Prop}
/-- what a body that may throw owes at its end -/
def vx_MQ (below : List Frame) (Qc : Array Value → State → Outcome → State → Prop) (XC : String → State → State → Prop) (a : Array Value) (s : State) (mc ms : Nat) (free : Addr → Prop) : State → Prop := fun t =>
  ∃ o, t.status = .running ∧ Ended t below o ∧ vx_Q Qc XC mc ms free a s o t
theorem vx_ret {g : JFrame} {mc ms : Nat} (k : W p l e R s m args below meth c H locs cells slots (MQ below Qc args s mc ms free) g) : W p l e R s m args below meth c H locs cells slots (vx_MQ below Qc XC args s mc ms free) g := by
  intro T hT X
  obtain ⟨t, a1, o, b1, b2, b3, b4⟩ := k T hT X
  exact ⟨t, a1, o, b1, b2, Or.inl ⟨b3, b4⟩⟩
/-- not caught here: it goes on to the caller -/
theorem vx_widen {g : JFrame} {q : Addr} {k n : Nat} (h1 : cells ≤ k) (h2 : slots ≤ n) (kk : vx_W p l e R s m args below meth c H locs k n Q g q) : vx_W p l e R s m args below meth c H locs cells slots Q g q := fun T hT X => kk T hT (stand_widen X h1 h2)
theorem vx_out {pc : Nat} {E : String} {ce : Cell} {q : Addr} {mc ms : Nat} (hout : ∀ x ∈ c.exceptionTable.toList, covers x pc = false) (hlocks : meth.locks = false) (hcell : H[q]? = some ce) (hv : ce.vm = .none) (hcl : s.vm.findClass E = some ce.cls)
    (hx : ∀ t : State, t.heap = H → s.vm.Alike t.vm → XC E s t) (hf : ∀ z ∈ locs, free z.base) (hc : cells ≤ mc) (hs : slots ≤ ms) :
    vx_W p l e R s m args below meth c H locs cells slots (vx_MQ below Qc XC args s mc ms free) (F0 m pc ls rest) q := by
  intro T hT X
  obtain ⟨st1, hrun, hend, hW, hsm⟩ := X.leaveThrown q (g := F0 m pc ls rest) rfl rfl rfl hout hlocks
  have hcell9 : (T.setFrames (.throwing q :: below)).heap[q]? = some ce := by
    show T.heap[q]? = some ce
    rw [hT]; exact hcell
  exact ⟨_, st1, .threw q, hrun, hend, Or.inr ⟨q, rfl, E, ce, locs, hx _ hT hW.alike, hcell9, hv, hcl, hW, hsm.mono hc hs, hf⟩⟩
theorem vx_frame {U : State} {k n : Nat} (h : s.sameButNew ({ U with vm := s.vm } : State) locs k n) : s.heap.size ≤ U.heap.size ∧ ∀ q : Nat, q < s.heap.size → (∀ z ∈ locs, z.base ≠ q) → U.heap[q]? = s.heap[q]? := by
  obtain ⟨-, h2, -, -, -, h6⟩ := h
  refine ⟨h2, fun q hq hz => ?_⟩
  obtain ⟨c9, e1, e2, e3, e4⟩ := h6 q _ (Array.getElem?_eq_getElem hq)
  have hs : c9.slots = (s.heap[q]).slots := Array.ext_getElem? fun i => e4 i fun hm => hz _ hm rfl
  have h9 : c9 = s.heap[q] := by
    rw [hs] at e2
    exact e2
  have e5 : U.heap[q]? = some c9 := e1
  rw [e5, h9, Array.getElem?_eq_getElem hq]
/-- the words of a throw but the four that speak of the heap -/
def vx_no (w : Cond) : Bool := decide (w ≠ .isRef (.static Bundle.tN "UNASSIGNED_STACK" Bundle.steD)) && decide (w ≠ .isRef (.static Bundle.tN "SUPPRESSED_SENTINEL" Bundle.listD)) && decide (w ≠ .laysStatic Bundle.tN "UNASSIGNED_STACK" Bundle.steD) && decide (w ≠ .laysStatic Bundle.tN "SUPPRESSED_SENTINEL" Bundle.listD)
def vx_at0 (own : String) (ic : Nat) (X : String) (names : List String) : List Cond := (Bundle.ownAtoms0 own ic X names).filter vx_no
def vx_atS (own : String) (ic : Nat) (X : String) (names : List String) : List Cond := (Bundle.ownAtoms own ic X names).filter vx_no
/-- a word that the tables alone decide, or a good one -/
def vx_ot (w : Cond) : Bool := w.onTables || goodWord w
theorem vx_ot_at {args a' : Array Value} {s U : State} {w : Cond} (hW : s.WarmedH U.vm) (hvm : s.vm = U.vm) (hg : vx_ot w = true) (h : w.before args s = true) : w.before a' U = true := by
  simp only [vx_ot, Bool.or_eq_true] at hg
  rcases hg with hg | hg
  · exact va_tabs hg hvm h
  · exact word_at hW (good_of_word hg) h
/-- a list's words: the good ones out of the method's own list, the others by premises of their own -/
theorem vx_hat {args : Array Value} {s : State} {L B : List Cond} (h1 : ∀ w ∈ L.filter goodWord, w.before args s = true) (h2 : ∀ w ∈ L.filter (fun w => !goodWord w), w ∈ B) (h3 : ∀ w ∈ B, w.before args s = true) : ∀ w ∈ L, w.before args s = true := by
  intro w hw
  by_cases g : goodWord w = true
  · exact h1 w (List.mem_filter.mpr ⟨hw, g⟩)
  · refine h3 w (h2 w (List.mem_filter.mpr ⟨hw, ?_⟩))
    show (!goodWord w) = true
    cases hgw : goodWord w
    · rfl
    · exact absurd hgw g
theorem vx_c {args : Array Value} {s : State} {w : Cond} {B : List Cond} (h : w.before args s = true) (t : ∀ w ∈ B, w.before args s = true) : ∀ w' ∈ w :: B, w'.before args s = true := fun w' h' => (List.mem_cons.mp h').elim (fun e => by rw [e]; exact h) (t w')
theorem vx_n {args : Array Value} {s : State} : ∀ w ∈ ([] : List Cond), w.before args s = true := fun _ h => nomatch h
theorem vx_own {args : Array Value} {s : State} {L : List Cond} (h1 : ∀ w ∈ L.filter vx_no, w.before args s = true)
    (hU : (Cond.isRef (.static Bundle.tN "UNASSIGNED_STACK" Bundle.steD)).before args s = true) (hN : (Cond.isRef (.static Bundle.tN "SUPPRESSED_SENTINEL" Bundle.listD)).before args s = true)
    (lU : (Cond.laysStatic Bundle.tN "UNASSIGNED_STACK" Bundle.steD).before args s = true) (lN : (Cond.laysStatic Bundle.tN "SUPPRESSED_SENTINEL" Bundle.listD).before args s = true) : ∀ w ∈ L, w.before args s = true := by
  intro w hw
  by_cases e1 : w = .isRef (.static Bundle.tN "UNASSIGNED_STACK" Bundle.steD)
  · rw [e1]; exact hU
  · by_cases e2 : w = .isRef (.static Bundle.tN "SUPPRESSED_SENTINEL" Bundle.listD)
    · rw [e2]; exact hN
    · by_cases e3 : w = .laysStatic Bundle.tN "UNASSIGNED_STACK" Bundle.steD
      · rw [e3]; exact lU
      · by_cases e4 : w = .laysStatic Bundle.tN "SUPPRESSED_SENTINEL" Bundle.listD
        · rw [e4]; exact lN
        · exact h1 w (List.mem_filter.mpr ⟨hw, by unfold vx_no; rw [decide_eq_true e1, decide_eq_true e2, decide_eq_true e3, decide_eq_true e4]; rfl⟩)
/-- where a static field lies, its class's statics cell in H -/
def vx_L (C n d : String) (A : Nat → Prop) (U : State) (H : Heap) : Prop := ∃ (c : ClassId) (k : Class) (i : Nat) (f : Field) (a : Nat) (cell : Cell), U.vm.findClass C = some c ∧ U.fieldFound? C n d = some (c, k, i, f) ∧ f.isStatic = true ∧ k.statics = some a ∧ H[a]? = some cell ∧ cell.vm.isStatics = true ∧ cell.cls = c ∧ f.slot < cell.slots.size ∧ k.staticTypes[f.slot]? = some f.type ∧ ¬ A a
theorem vx_L.moved {C n d : String} {A : Nat → Prop} {u U : State} {H : Heap} (hvm : u.vm.Alike U.vm) (h : vx_L C n d A u H) : vx_L C n d A U H := by
  obtain ⟨c, k, i, f, a, cell, h1, h2, h3, h4, h5, h6, h7, h8, h9, h10⟩ := h
  obtain ⟨k', hi', he⟩ := State.fieldFound?_setVm hvm h2
  exact ⟨c, k', i, f, a, cell, by rw [hvm.findClass]; exact h1, hi', h3, by rw [he]; exact h4, h5, h6, h7, h8, by rw [he]; exact h9, h10⟩
theorem vx_L.kept {C n d : String} {A : Nat → Prop} {U : State} {H H1 : Heap} (h : vx_L C n d A U H) (hq : ∀ a : Nat, a < H.size → ¬ A a → H1[a]? = H[a]?) : vx_L C n d A U H1 := by
  obtain ⟨c, k, i, f, a, cell, h1, h2, h3, h4, h5, h6, h7, h8, h9, h10⟩ := h
  exact ⟨c, k, i, f, a, cell, h1, h2, h3, h4, by rw [hq a (Array.getElem?_eq_some_iff.mp h5).1 h10]; exact h5, h6, h7, h8, h9, h10⟩
theorem vx_L.narrow {C n d : String} {A B : Nat → Prop} {U : State} {H : Heap} (h : vx_L C n d A U H) (hAB : ∀ q, B q → A q) : vx_L C n d B U H := by
  obtain ⟨c, k, i, f, a, cell, h1, h2, h3, h4, h5, h6, h7, h8, h9, h10⟩ := h
  exact ⟨c, k, i, f, a, cell, h1, h2, h3, h4, h5, h6, h7, h8, h9, fun z => h10 (hAB _ z)⟩
theorem vx_L.word {C n d : String} {A : Nat → Prop} {s : State} {args : Array Value} (h : vx_L C n d A s s.heap) : (Cond.laysStatic C n d).before args s = true := by
  obtain ⟨c, k, i, f, a, cell, h1, h2, h3, h4, h5, h6, h7, h8, h9, -⟩ := h
  show (Cond.laysStatic C n d).holds args s none s [] = true
  exact Cond.laysStatic_of h1 h2 h3 h4 h5 h6 h7 h8 h9
/-- .. and what it holds: null or some reference -/
def vx_Zq (C n d : String) (A : Nat → Prop) (U : State) (H : Heap) : Prop := va_Zq C n d A U H ∧ vx_L C n d A U H
theorem vx_Zq.moved {C n d : String} {A : Nat → Prop} {u U : State} {H : Heap} (hvm : u.vm.Alike U.vm) (h : vx_Zq C n d A u H) : vx_Zq C n d A U H := ⟨va_Zq.moved hvm h.1, vx_L.moved hvm h.2⟩
theorem vx_Zq.kept {C n d : String} {A : Nat → Prop} {U : State} {H H1 : Heap} (h : vx_Zq C n d A U H) (hq : ∀ a : Nat, a < H.size → ¬ A a → H1[a]? = H[a]?) : vx_Zq C n d A U H1 := ⟨va_Zq.kept h.1 hq, vx_L.kept h.2 hq⟩
theorem vx_Zq.narrow {C n d : String} {A B : Nat → Prop} {U : State} {H : Heap} (h : vx_Zq C n d A U H) (hAB : ∀ q, B q → A q) : vx_Zq C n d B U H := ⟨va_Zq.narrow h.1 hAB, vx_L.narrow h.2 hAB⟩
theorem vx_Zqof {args : Array Value} {s : State} {C n d : String} {A : Nat → Prop} (hl : (Cond.laysStatic C n d).before args s = true) (hini : (Cond.initialized C).before args s = true) (h : (Cond.isRef (.static C n d)).before args s = true) (hA : ∀ a : Nat, a < s.heap.size → ¬ A a) : vx_Zq C n d A s s.heap := by
  refine ⟨va_Zqof hl hini h hA, ?_⟩
  obtain ⟨c, k, i, f, a, cell, h1, h2, h3, h4, h5, h6, h7, h8, h9⟩ := Cond.laysStatic_spec hl
  exact ⟨c, k, i, f, a, cell, h1, h2, h3, h4, h5, h6, h7, h8, h9, hA a (Array.getElem?_eq_some_iff.mp h5).1⟩
theorem vx_isRef {C n d : String} {v : Value} {A : Nat → Prop} {s : State} {args : Array Value} (h : va_Z C n d v A s s.heap) (hv : v.isRef = true) : (Cond.isRef (.static C n d)).before args s = true := by
  obtain ⟨cf, kf, fi, f, a, cell, h1, h2, h3, h4, h5, h6, h7, -⟩ := h
  have he : (Term.static C n d).eval args s none [] s = some v := by
    simp [Term.eval, State.fieldNamed?, h1, h2, h4, h5, h6, h7]
  simp only [Cond.before, Cond.holds, Cond.value, he]
  cases v <;> simp_all [Value.isRef]
theorem vx_isRefq {C n d : String} {A : Nat → Prop} {s : State} {args : Array Value} (h : va_Zq C n d A s s.heap) : (Cond.isRef (.static C n d)).before args s = true := by
  rcases h with h | ⟨t, h⟩
  · exact vx_isRef h rfl
  · exact vx_isRef h rfl
/-- the same frame, seen from here: as if the method were called anew in this heap -/
theorem vx_rebase {T : State} (X : Stand p l e R s m args below meth c T locs cells slots) {R' : Room} (hf : R'.frames ≤ R.frames) (hl : R'.locals ≤ R.locals) (hc : cells + R'.cells ≤ R.cells) (hs : slots + R'.slots ≤ R.slots) :
    Stand p l e R' ((T.setVm s.vm).setFrames (.invoking m args :: below)) m args below meth c T [] 0 0 := by
  have htop : (T.setVm s.vm).topJava?.isSome := X.here.top
  have hF : ((T.setVm s.vm).setFrames (.invoking m args :: below)).frames = .invoking m args :: below := State.frames_setFrames _ (State.cur_lt_of_top htop)
  obtain ⟨g₀, hg0⟩ := Option.isSome_iff_exists.mp htop
  obtain ⟨r, hr⟩ := State.topJava?_eq_some.mp hg0
  have hl9 : e.platform.stackLimits (T.setVm s.vm).me = e.platform.stackLimits s.me := X.limits
  have hb9 : (T.setVm s.vm).me.stackBytes = s.me.stackBytes := X.bytes
  refine ⟨X.admits, X.cas, X.clock, hF, ?_, X.hears, X.method, X.code, X.here, X.tail, X.warmed, ?_, ?_, ?_⟩
  · have h := X.room
    have hU : ((T.setVm s.vm).setFrames (.invoking m args :: below)).localsInUse = s.localsInUse := by
      rw [State.localsInUse_invoking hF (meth := meth) (c := c) X.method X.code, State.localsInUse_invoking X.frames X.method X.code]
    simp only [State.hasRoom, Bool.and_eq_true, decide_eq_true_eq] at h ⊢
    obtain ⟨⟨⟨⟨h1, h2, h3, h4, h5, h6⟩, h7⟩, h8⟩, h9⟩ := h
    rw [X.frames, List.length_cons] at h2 h3
    have q1 := X.heapSize
    have q2 := X.used
    simp only [hF, hU, List.length_cons, State.stackLimits_setFrames, State.stackBytes_setFrames, hl9, hb9]
    refine ⟨⟨⟨⟨by omega, by omega, by omega, by omega, by omega, h6⟩, ?_⟩, ?_⟩, X.book⟩
    · show T.heap.size + R'.cells ≤ e.platform.maxCells
      omega
    · show T.slotsUsed + R'.slots ≤ e.platform.maxSlots
      omega
  · rw [State.stackLimits_setFrames]; rfl
  · rw [State.stackBytes_setFrames]; rfl
  · refine ⟨?_, Nat.le_refl _, Nat.le_refl _, ?_, ?_, fun a c9 h9 => ⟨c9, h9, rfl, rfl, fun _ _ => rfl⟩⟩
    · obtain ⟨t, ht, -⟩ := State.frames_cons hr
      show T.setVm s.vm = { ((T.setVm s.vm).setFrames (.invoking m args :: below)).setFrames (T.setVm s.vm).frames with heap := T.heap, slotsUsed := T.slotsUsed }
      rw [State.setFrames_setFrames, State.setFrames_self ht]
      rfl
    · show T.slotsUsed = T.slotsUsed + ((T.heap.toList.drop T.heap.size).map (·.slots.size)).sum
      rw [List.drop_eq_nil_of_le (Nat.le_of_eq Array.length_toList)]
      rfl
    · show ((T.heap.toList.drop T.heap.size).map (·.slots.size)).sum ≤ 0
      rw [List.drop_eq_nil_of_le (Nat.le_of_eq Array.length_toList)]
      exact Nat.le_refl _
/-- 'throw new E()': new; dup; invokespecial; athrow -/
theorem vx_throw0 {cc : ByteArray} {pc : Nat} (hexec : p.tables.exec = Jvm.exec) (hb : c.code = cc) (hl : l.stackTraces = false) {own cls : String} {names : List String} {ik ic mc ms : Nat} {A : Nat → Prop}
    (hown : s.vm.findClass own = some m.cls) (hcls : Bundle.fit cls = true) (hnames : ∀ n ∈ names, Bundle.fit n = true)
    (hk : (Cond.classLink own ik cls).before args s = true) (hini : (Cond.initialized cls).before args s = true) (hat : ∀ w ∈ vx_at0 own ic cls names, w.before args s = true)
    (hgood : ∀ w ∈ Cond.classLink own ik cls :: Cond.initialized cls :: vx_at0 own ic cls names, vx_ot w = true)
    (hU : vx_Zq Bundle.tN "UNASSIGNED_STACK" Bundle.steD A s s.heap) (hN : vx_Zq Bundle.tN "SUPPRESSED_SENTINEL" Bundle.listD A s s.heap) (hS : va_S A s.heap H locs) (hsize : ls.size = c.maxLocals)
    (d0 : decode cc pc = .ok (.new ik, 3)) (d3 : decode cc (pc + 3) = .ok (.dup, 1)) (d4 : decode cc (pc + 4) = .ok (.invokespecial ic, 3)) (d7 : decode cc (pc + 7) = .ok (.athrow, 1))
    (hout : ∀ x ∈ c.exceptionTable.toList, covers x (pc + 7) = false)
    (hRframes : names.length + 3 < R.frames) (hRlocals : (rest.map fun v => v.category).sum + (13 * (names.length + 1) + 42) ≤ R.locals) (hRcells : cells + 1 ≤ R.cells) (hRslots : slots + 6 ≤ R.slots) (hlocks : meth.locks = false)
    (hx : ∀ t : State, s.vm.Alike t.vm → H.size ≤ t.heap.size → (∀ q : Nat, q < H.size → t.heap[q]? = H[q]?) → XC cls s t)
    (hf : ∀ z ∈ locs, free z.base) (hc : cells + 1 ≤ mc) (hs : slots + 6 ≤ ms) :
    W p l e R s m args below meth c H locs cells slots (vx_MQ below Qc XC args s mc ms free) (F0 m pc ls rest) := by
  intro T hT X
  have htr : e.platform.stackTraces = false := (show e.platform.stackTraces = l.stackTraces by rw [X.admits.platform]).trans hl
  have Y := vx_rebase X (R' := { frames := R.frames, locals := R.locals, cells := 1, slots := 6 }) (Nat.le_refl _) (Nat.le_refl _) hRcells hRslots
  obtain ⟨s', hA⟩ : ∃ z, z = (T.setVm s.vm).setFrames (.invoking m args :: below) := ⟨_, rfl⟩
  rw [← hA] at Y
  have hvm : s'.vm = s.vm := by rw [hA]; rfl
  have hhp : s'.heap = H := by rw [hA]; exact hT
  have hW0 : s.WarmedH s'.vm := by rw [hvm]; exact State.WarmedH.refl s
  have hat' : ∀ w ∈ vx_at0 own ic cls names, w.before args s' = true := fun w hw => vx_ot_at hW0 hvm.symm (hgood w (List.mem_cons_of_mem _ (List.mem_cons_of_mem _ hw))) (hat w hw)
  have hk' : (Cond.classLink own ik cls).before args s' = true := vx_ot_at hW0 hvm.symm (hgood _ List.mem_cons_self) hk
  have hini' : (Cond.initialized cls).before args s' = true := vx_ot_at hW0 hvm.symm (hgood _ (List.mem_cons_of_mem _ List.mem_cons_self)) hini
  have hU' : vx_Zq Bundle.tN "UNASSIGNED_STACK" Bundle.steD A s' s'.heap := by rw [hhp]; exact vx_Zq.moved hW0.alike (hU.kept hS.2.1)
  have hN' : vx_Zq Bundle.tN "SUPPRESSED_SENTINEL" Bundle.listD A s' s'.heap := by rw [hhp]; exact vx_Zq.moved hW0.alike (hN.kept hS.2.1)
  have h : ∀ w ∈ Bundle.ownAtoms0 own ic cls names, w.before args s' = true := vx_own hat' (vx_isRefq hU'.1) (vx_isRefq hN'.1) hU'.2.word hN'.2.word
  have hown' : s'.vm.findClass own = some m.cls := by rw [hvm]; exact hown
  have hins : (Cond.instantiable cls 6).before args s' = true := h _ (by simp [Bundle.ownAtoms0])
  obtain ⟨vm₁, cX, kX, hfX, hkX, -, -, X₁, st1⟩ := Y.newCold hexec (own := own) (C := cls) (index := ik) (n := 6) hown' hk' hins hini'
    (g := F0 m pc ls rest) rfl (by rw [hb]; exact d0) (Nat.le_refl _) (Nat.le_refl _)
  generalize hT1 : (T.setVm vm₁).pushCell { cls := cX, slots := kX.instanceTypes.map defaultValue, vm := .none } = T1 at X₁ st1
  have hcat : (Value.ref T.heap.size).category = 1 := rfl
  have hcellA : T1.heap[T.heap.size]? = some (freshCell cX kX) := by rw [← hT1]; exact State.heap_pushCell_size _ _
  have d3' : decode c.code (pc + 3) = .ok (.dup, 1) := by rw [hb]; exact d3
  obtain ⟨U, hsteps, hrun, hend, hW, hsame, ce, hce, hO⟩ := X₁.ctorThrow0 hexec htr (own := own) (cls := cls) (names := names) (ic := ic) hown' hcls hnames h (fun x hx => nomatch hx) hfX hkX hcellA (by rw [hhp, hT]; exact Nat.le_refl _)
    (g := { method := m, pc := pc + 4, locals := ls, stack := .ref T.heap.size :: .ref T.heap.size :: rest, locked := none }) rfl hsize rfl rfl (rest := rest) rfl
    (by rw [hb]; exact d4) (by rw [hb]; exact d7) hout hRframes (by simp only [List.map_cons, List.sum_cons, hcat]; omega) hlocks
  obtain ⟨f1, f2⟩ := vx_frame hsame
  rw [hhp] at f1 f2
  have hWs : s.WarmedH U.vm := State.WarmedH.trans hW0 hW
  have hcl : s.vm.findClass cls = some ce.cls := by
    have h9 := hO.cls
    rw [hvm] at h9
    exact h9
  have hall : s.sameButNew ({ U with vm := s.vm } : State) locs mc ms := by
    subst hA
    obtain ⟨e1, e2⟩ := hsame
    rw [State.setFrames_setFrames] at e1
    have h2 : (T.setVm s.vm).sameButNew ({ U with vm := s.vm } : State) [] (0 + 1) (0 + 6) := ⟨e1, e2⟩
    have h3 := X.same.trans h2
    rw [List.append_nil] at h3
    exact h3.mono hc hs
  refine ⟨U, ?_, .threw T.heap.size, hrun, hend, Or.inr ⟨T.heap.size, rfl, cls, ce, locs, hx U hWs.alike f1 (fun q hq => f2 q hq (fun z hz => nomatch hz)), hce, hO.vm, hcl, hWs, hall, hf⟩⟩
  refine st1 _ ?_
  show Steps p.tables e below (T1.setTop { method := m, pc := pc + 3, locals := ls, stack := .ref T.heap.size :: rest, locked := none }) _
  jvm_step X₁.here [X₁.here.top, hexec, d3', Value.category]
  exact hsteps
/-- 'throw new E("text")': new; dup; ldc; invokespecial; athrow -/
theorem vx_throwS {cc : ByteArray} {pc : Nat} (hexec : p.tables.exec = Jvm.exec) (hb : c.code = cc) (hl : l.stackTraces = false) {own cls text : String} {names : List String} {ik is ic mc ms sa : Nat} {A : Nat → Prop}
    (hown : s.vm.findClass own = some m.cls) (hcls : Bundle.fit cls = true) (hnames : ∀ n ∈ names, Bundle.fit n = true)
    (hk : (Cond.classLink own ik cls).before args s = true) (hini : (Cond.initialized cls).before args s = true) (hstr : vk_R own is text sa s) (hat : ∀ w ∈ vx_atS own ic cls names, w.before args s = true)
    (hgood : ∀ w ∈ Cond.classLink own ik cls :: Cond.initialized cls :: vx_atS own ic cls names, vx_ot w = true)
    (hU : vx_Zq Bundle.tN "UNASSIGNED_STACK" Bundle.steD A s s.heap) (hN : vx_Zq Bundle.tN "SUPPRESSED_SENTINEL" Bundle.listD A s s.heap) (hS : va_S A s.heap H locs) (hsize : ls.size = c.maxLocals)
    (d0 : decode cc pc = .ok (.new ik, 3)) (d3 : decode cc (pc + 3) = .ok (.dup, 1)) (d4 : decode cc (pc + 4) = .ok (.ldc is, 2)) (d6 : decode cc (pc + 6) = .ok (.invokespecial ic, 3)) (d9 : decode cc (pc + 9) = .ok (.athrow, 1))
    (hout : ∀ x ∈ c.exceptionTable.toList, covers x (pc + 9) = false)
    (hRframes : names.length + 3 < R.frames) (hRlocals : (rest.map fun v => v.category).sum + (13 * (names.length + 1) + 43) ≤ R.locals) (hRcells : cells + 1 ≤ R.cells) (hRslots : slots + 6 ≤ R.slots) (hlocks : meth.locks = false)
    (hx : ∀ t : State, s.vm.Alike t.vm → H.size ≤ t.heap.size → (∀ q : Nat, q < H.size → t.heap[q]? = H[q]?) → XC cls s t)
    (hf : ∀ z ∈ locs, free z.base) (hc : cells + 1 ≤ mc) (hs : slots + 6 ≤ ms) :
    W p l e R s m args below meth c H locs cells slots (vx_MQ below Qc XC args s mc ms free) (F0 m pc ls rest) := by
  intro T hT X
  have htr : e.platform.stackTraces = false := (show e.platform.stackTraces = l.stackTraces by rw [X.admits.platform]).trans hl
  have Y := vx_rebase X (R' := { frames := R.frames, locals := R.locals, cells := 1, slots := 6 }) (Nat.le_refl _) (Nat.le_refl _) hRcells hRslots
  obtain ⟨s', hA⟩ : ∃ z, z = (T.setVm s.vm).setFrames (.invoking m args :: below) := ⟨_, rfl⟩
  rw [← hA] at Y
  have hvm : s'.vm = s.vm := by rw [hA]; rfl
  have hhp : s'.heap = H := by rw [hA]; exact hT
  have hW0 : s.WarmedH s'.vm := by rw [hvm]; exact State.WarmedH.refl s
  have hat' : ∀ w ∈ vx_atS own ic cls names, w.before args s' = true := fun w hw => vx_ot_at hW0 hvm.symm (hgood w (List.mem_cons_of_mem _ (List.mem_cons_of_mem _ hw))) (hat w hw)
  have hk' : (Cond.classLink own ik cls).before args s' = true := vx_ot_at hW0 hvm.symm (hgood _ List.mem_cons_self) hk
  have hini' : (Cond.initialized cls).before args s' = true := vx_ot_at hW0 hvm.symm (hgood _ (List.mem_cons_of_mem _ List.mem_cons_self)) hini
  have hU' : vx_Zq Bundle.tN "UNASSIGNED_STACK" Bundle.steD A s' s'.heap := by rw [hhp]; exact vx_Zq.moved hW0.alike (hU.kept hS.2.1)
  have hN' : vx_Zq Bundle.tN "SUPPRESSED_SENTINEL" Bundle.listD A s' s'.heap := by rw [hhp]; exact vx_Zq.moved hW0.alike (hN.kept hS.2.1)
  have h : ∀ w ∈ Bundle.ownAtoms own ic cls names, w.before args s' = true := vx_own hat' (vx_isRefq hU'.1) (vx_isRefq hN'.1) hU'.2.word hN'.2.word
  have hown' : s'.vm.findClass own = some m.cls := by rw [hvm]; exact hown
  have hins : (Cond.instantiable cls 6).before args s' = true := h _ (by simp [Bundle.ownAtoms])
  obtain ⟨vm₁, cX, kX, hfX, hkX, -, -, X₁, st1⟩ := Y.newCold hexec (own := own) (C := cls) (index := ik) (n := 6) hown' hk' hins hini'
    (g := F0 m pc ls rest) rfl (by rw [hb]; exact d0) (Nat.le_refl _) (Nat.le_refl _)
  generalize hT1 : (T.setVm vm₁).pushCell { cls := cX, slots := kX.instanceTypes.map defaultValue, vm := .none } = T1 at X₁ st1
  have hcat : (Value.ref T.heap.size).category = 1 := rfl
  have hcellA : T1.heap[T.heap.size]? = some (freshCell cX kX) := by rw [← hT1]; exact State.heap_pushCell_size _ _
  have d3' : decode c.code (pc + 3) = .ok (.dup, 1) := by rw [hb]; exact d3
  have d4' : decode c.code (pc + 4) = .ok (.ldc is, 2) := by rw [hb]; exact d4
  have hstr' : vk_R own is text sa s' := vk_R.warm hW0 hstr
  obtain ⟨U, hsteps, hrun, hend, hW, hsame, ce, hce, hO⟩ := X₁.ctorThrowS hexec htr (own := own) (cls := cls) (names := names) (ic := ic) hown' hcls hnames h (fun x hx => nomatch hx) hfX hkX hcellA (by rw [hhp, hT]; exact Nat.le_refl _) (msg := .ref sa) rfl
    (g := { method := m, pc := pc + 6, locals := ls, stack := .ref sa :: .ref T.heap.size :: .ref T.heap.size :: rest, locked := none }) rfl hsize rfl rfl (rest := rest) rfl
    (by rw [hb]; exact d6) (by rw [hb]; exact d9) hout hRframes (by simp only [List.map_cons, List.sum_cons, hcat]; omega) hlocks
  obtain ⟨f1, f2⟩ := vx_frame hsame
  rw [hhp] at f1 f2
  have hWs : s.WarmedH U.vm := State.WarmedH.trans hW0 hW
  have hcl : s.vm.findClass cls = some ce.cls := by
    have h9 := hO.cls
    rw [hvm] at h9
    exact h9
  have hall : s.sameButNew ({ U with vm := s.vm } : State) locs mc ms := by
    subst hA
    obtain ⟨e1, e2⟩ := hsame
    rw [State.setFrames_setFrames] at e1
    have h2 : (T.setVm s.vm).sameButNew ({ U with vm := s.vm } : State) [] (0 + 1) (0 + 6) := ⟨e1, e2⟩
    have h3 := X.same.trans h2
    rw [List.append_nil] at h3
    exact h3.mono hc hs
  refine ⟨U, ?_, .threw T.heap.size, hrun, hend, Or.inr ⟨T.heap.size, rfl, cls, ce, locs, hx U hWs.alike f1 (fun q hq => f2 q hq (fun z hz => nomatch hz)), hce, hO.vm, hcl, hWs, hall, hf⟩⟩
  refine st1 _ ?_
  show Steps p.tables e below (T1.setTop { method := m, pc := pc + 3, locals := ls, stack := .ref T.heap.size :: rest, locked := none }) _
  jvm_step X₁.here [X₁.here.top, hexec, d3', Value.category]
  exact X₁.ldcString hexec (own := own) (text := text) (index := is) (a := sa) hown' hstr'.1 hstr'.2
    (g := { method := m, pc := pc + 4, locals := ls, stack := .ref T.heap.size :: .ref T.heap.size :: rest, locked := none }) rfl d4' _ hsteps
/-- 'throw new E("text")', the text by a wide index -/
theorem vx_throwSW {cc : ByteArray} {pc : Nat} (hexec : p.tables.exec = Jvm.exec) (hb : c.code = cc) (hl : l.stackTraces = false) {own cls text : String} {names : List String} {ik is ic mc ms sa : Nat} {A : Nat → Prop}
    (hown : s.vm.findClass own = some m.cls) (hcls : Bundle.fit cls = true) (hnames : ∀ n ∈ names, Bundle.fit n = true)
    (hk : (Cond.classLink own ik cls).before args s = true) (hini : (Cond.initialized cls).before args s = true) (hstr : vk_R own is text sa s) (hat : ∀ w ∈ vx_atS own ic cls names, w.before args s = true)
    (hgood : ∀ w ∈ Cond.classLink own ik cls :: Cond.initialized cls :: vx_atS own ic cls names, vx_ot w = true)
    (hU : vx_Zq Bundle.tN "UNASSIGNED_STACK" Bundle.steD A s s.heap) (hN : vx_Zq Bundle.tN "SUPPRESSED_SENTINEL" Bundle.listD A s s.heap) (hS : va_S A s.heap H locs) (hsize : ls.size = c.maxLocals)
    (d0 : decode cc pc = .ok (.new ik, 3)) (d3 : decode cc (pc + 3) = .ok (.dup, 1)) (d4 : decode cc (pc + 4) = .ok (.ldc_w is, 3)) (d7 : decode cc (pc + 7) = .ok (.invokespecial ic, 3)) (d10 : decode cc (pc + 10) = .ok (.athrow, 1))
    (hout : ∀ x ∈ c.exceptionTable.toList, covers x (pc + 10) = false)
    (hRframes : names.length + 3 < R.frames) (hRlocals : (rest.map fun v => v.category).sum + (13 * (names.length + 1) + 43) ≤ R.locals) (hRcells : cells + 1 ≤ R.cells) (hRslots : slots + 6 ≤ R.slots) (hlocks : meth.locks = false)
    (hx : ∀ t : State, s.vm.Alike t.vm → H.size ≤ t.heap.size → (∀ q : Nat, q < H.size → t.heap[q]? = H[q]?) → XC cls s t)
    (hf : ∀ z ∈ locs, free z.base) (hc : cells + 1 ≤ mc) (hs : slots + 6 ≤ ms) :
    W p l e R s m args below meth c H locs cells slots (vx_MQ below Qc XC args s mc ms free) (F0 m pc ls rest) := by
  intro T hT X
  have htr : e.platform.stackTraces = false := (show e.platform.stackTraces = l.stackTraces by rw [X.admits.platform]).trans hl
  have Y := vx_rebase X (R' := { frames := R.frames, locals := R.locals, cells := 1, slots := 6 }) (Nat.le_refl _) (Nat.le_refl _) hRcells hRslots
  obtain ⟨s', hA⟩ : ∃ z, z = (T.setVm s.vm).setFrames (.invoking m args :: below) := ⟨_, rfl⟩
  rw [← hA] at Y
  have hvm : s'.vm = s.vm := by rw [hA]; rfl
  have hhp : s'.heap = H := by rw [hA]; exact hT
  have hW0 : s.WarmedH s'.vm := by rw [hvm]; exact State.WarmedH.refl s
  have hat' : ∀ w ∈ vx_atS own ic cls names, w.before args s' = true := fun w hw => vx_ot_at hW0 hvm.symm (hgood w (List.mem_cons_of_mem _ (List.mem_cons_of_mem _ hw))) (hat w hw)
  have hk' : (Cond.classLink own ik cls).before args s' = true := vx_ot_at hW0 hvm.symm (hgood _ List.mem_cons_self) hk
  have hini' : (Cond.initialized cls).before args s' = true := vx_ot_at hW0 hvm.symm (hgood _ (List.mem_cons_of_mem _ List.mem_cons_self)) hini
  have hU' : vx_Zq Bundle.tN "UNASSIGNED_STACK" Bundle.steD A s' s'.heap := by rw [hhp]; exact vx_Zq.moved hW0.alike (hU.kept hS.2.1)
  have hN' : vx_Zq Bundle.tN "SUPPRESSED_SENTINEL" Bundle.listD A s' s'.heap := by rw [hhp]; exact vx_Zq.moved hW0.alike (hN.kept hS.2.1)
  have h : ∀ w ∈ Bundle.ownAtoms own ic cls names, w.before args s' = true := vx_own hat' (vx_isRefq hU'.1) (vx_isRefq hN'.1) hU'.2.word hN'.2.word
  have hown' : s'.vm.findClass own = some m.cls := by rw [hvm]; exact hown
  have hins : (Cond.instantiable cls 6).before args s' = true := h _ (by simp [Bundle.ownAtoms])
  obtain ⟨vm₁, cX, kX, hfX, hkX, -, -, X₁, st1⟩ := Y.newCold hexec (own := own) (C := cls) (index := ik) (n := 6) hown' hk' hins hini'
    (g := F0 m pc ls rest) rfl (by rw [hb]; exact d0) (Nat.le_refl _) (Nat.le_refl _)
  generalize hT1 : (T.setVm vm₁).pushCell { cls := cX, slots := kX.instanceTypes.map defaultValue, vm := .none } = T1 at X₁ st1
  have hcat : (Value.ref T.heap.size).category = 1 := rfl
  have hcellA : T1.heap[T.heap.size]? = some (freshCell cX kX) := by rw [← hT1]; exact State.heap_pushCell_size _ _
  have d3' : decode c.code (pc + 3) = .ok (.dup, 1) := by rw [hb]; exact d3
  have d4' : decode c.code (pc + 4) = .ok (.ldc_w is, 3) := by rw [hb]; exact d4
  have hstr' : vk_R own is text sa s' := vk_R.warm hW0 hstr
  obtain ⟨U, hsteps, hrun, hend, hW, hsame, ce, hce, hO⟩ := X₁.ctorThrowS hexec htr (own := own) (cls := cls) (names := names) (ic := ic) hown' hcls hnames h (fun x hx => nomatch hx) hfX hkX hcellA (by rw [hhp, hT]; exact Nat.le_refl _) (msg := .ref sa) rfl
    (g := { method := m, pc := pc + 7, locals := ls, stack := .ref sa :: .ref T.heap.size :: .ref T.heap.size :: rest, locked := none }) rfl hsize rfl rfl (rest := rest) rfl
    (by rw [hb]; exact d7) (by rw [hb]; exact d10) hout hRframes (by simp only [List.map_cons, List.sum_cons, hcat]; omega) hlocks
  obtain ⟨f1, f2⟩ := vx_frame hsame
  rw [hhp] at f1 f2
  have hWs : s.WarmedH U.vm := State.WarmedH.trans hW0 hW
  have hcl : s.vm.findClass cls = some ce.cls := by
    have h9 := hO.cls
    rw [hvm] at h9
    exact h9
  have hall : s.sameButNew ({ U with vm := s.vm } : State) locs mc ms := by
    subst hA
    obtain ⟨e1, e2⟩ := hsame
    rw [State.setFrames_setFrames] at e1
    have h2 : (T.setVm s.vm).sameButNew ({ U with vm := s.vm } : State) [] (0 + 1) (0 + 6) := ⟨e1, e2⟩
    have h3 := X.same.trans h2
    rw [List.append_nil] at h3
    exact h3.mono hc hs
  refine ⟨U, ?_, .threw T.heap.size, hrun, hend, Or.inr ⟨T.heap.size, rfl, cls, ce, locs, hx U hWs.alike f1 (fun q hq => f2 q hq (fun z hz => nomatch hz)), hce, hO.vm, hcl, hWs, hall, hf⟩⟩
  refine st1 _ ?_
  show Steps p.tables e below (T1.setTop { method := m, pc := pc + 3, locals := ls, stack := .ref T.heap.size :: rest, locked := none }) _
  jvm_step X₁.here [X₁.here.top, hexec, d3', Value.category]
  exact X₁.ldcStringW hexec (own := own) (text := text) (index := is) (a := sa) hown' hstr'.1 hstr'.2
    (g := { method := m, pc := pc + 4, locals := ls, stack := .ref T.heap.size :: .ref T.heap.size :: rest, locked := none }) rfl d4' _ hsteps
end Ends
section Bodies
variable {l : Launch}
theorem vx_ofW {y : MethodName} {ws ws' : List Cond} {rm : Room} {Pc : Array Value → State → Prop} {Qc : Array Value → State → Outcome → State → Prop} {XC : String → State → State → Prop} {mc ms : Nat} {free : Addr → Prop} {cc : ByteArray} {maxL : Nat} {ret : Option FieldType}
    (hy : plainName y.cls = true) (hw : ws = Cond.code y cc maxL ret :: ws')
    (body : ∀ p e s m args below meth c s₁, BodyLoose p l y (headSpec ws rm) cc maxL ret e s m args below meth c s₁ → c.maxLocals = maxL → (∀ x ∈ c.exceptionTable.toList, False) → Pc args s →
      W p l e (headSpec ws rm).room s m args below meth c s.heap [] 0 0 (vx_MQ below Qc XC args s mc ms free) (entryFrame m args maxL)) : vx_Met l y ws rm Pc Qc XC mc ms free := by
  refine MetFree.of_bodyS (code := cc) (maxLocals := maxL) (ret := ret) hy ?_ ?_
  · intro args s m h hn
    obtain ⟨meth, c, h1, h2, h3, h4, h5, h6, -, -⟩ := Cond.code_spec hn (atoms_spec (ws := ws) h _ (by rw [hw]; exact List.mem_cons_self))
    exact ⟨meth, c, h1, h2, h3, h4, h5, h6⟩
  · intro p e s m args below meth c s₁ B hml hP _
    have hh0 : s₁.heap = s.heap := by rw [B.state]; rfl
    have ht : ∀ x ∈ c.exceptionTable.toList, False := by
      obtain ⟨meth9, c9, h1, h2, -, -, -, -, h7, -⟩ := Cond.code_spec B.named (atoms_spec (ws := ws) B.pre _ (by rw [hw]; exact List.mem_cons_self))
      cases Option.some.inj (h1.symm.trans B.method)
      cases Option.some.inj (h2.symm.trans (Stand.of_body B).code)
      intro x hx
      rw [Array.isEmpty_iff.mp h7] at hx
      cases hx
    obtain ⟨t, a1, o, b1, b2, b3⟩ := body p e s m args below meth c s₁ B hml ht hP s₁ hh0 (Stand.of_body B)
    exact ⟨t, o, a1, b1, b2, b3⟩
/-- the table of a body with handlers -/
theorem vx_table {p : Program} {x y : MethodName} {S : Spec} {cc bytes : ByteArray} {maxL maxL' : Nat} {ret ret' : Option FieldType} {e : Env} {s s₁ : State} {m : MethodId} {args : Array Value} {below : List Frame} {meth : Method} {c : Code} {hh : List (Nat × Nat × Nat × Nat)}
    (B : BodyLoose p l y S cc maxL ret e s m args below meth c s₁) (h : (Cond.codeWith y bytes maxL' ret' hh).before args s = true) : c.exceptionTable.toList = tableOf hh := by
  obtain ⟨m9, meth9, c9, hn9, h1, h2, -, -, h6, -⟩ := Cond.codeWith_spec h
  cases Option.some.inj (hn9.symm.trans B.named)
  cases Option.some.inj (h1.symm.trans B.method)
  cases Option.some.inj (h2.symm.trans (Stand.of_body B).code)
  rw [← h6, table_eq]
end Bodies
end VXA
/-! ===== END ===== -/
/-! ===== BEGIN a static call of a method with an exception table ===== -/
section VXS
variable {p : Program} {l : Launch} {e : Env} {R : Room} {s : State} {m : MethodId} {args : Array Value} {below : List Frame} {meth : Method} {c : Code} {T : State} {H : Heap} {locs : List Loc} {cells slots : Nat}
abbrev vx_CSW (R : Room) (s : State) (args : Array Value) (own : String) (index : Nat) (y : MethodName) (bytes : ByteArray) (maxL : Nat) (ret : Option FieldType) (hh : List (Nat × Nat × Nat × Nat)) (ws : List Cond) (rm : Room) (mc ms n : Nat) : Prop :=
  (rm.cells = mc ∧ rm.slots = ms ∧ rm.frames + 1 ≤ R.frames ∧ 8 + (maxL + 11) + rm.locals ≤ R.locals ∧ (∀ w ∈ ws, ∀ (a' : Array Value) (U : State), s.WarmedH U.vm → w.before a' U = true) ∧ Cond.codeWith y bytes maxL ret hh ∈ ws) ∧
  (Cond.codeWith y bytes maxL ret hh).before args s = true ∧ (Cond.initialized y.cls).before args s = true ∧ (y.cls ≠ "java/lang/invoke/MethodHandle" ∧ y.cls ≠ "java/lang/invoke/VarHandle") ∧
  (∀ sig, parseMethodDescriptor y.desc = some sig → n = sig.parameters.length) ∧ (Cond.methodLink own index y).before args s = true ∧ (Cond.static y).before args s = true
theorem vx_cwSW {own : String} {index maxL mc ms : Nat} {y : MethodName} {bytes : ByteArray} {ret : Option FieldType} {hh : List (Nat × Nat × Nat × Nat)} {Ts ws ws' : List Cond} {rm : Room} (n : Nat) (ht : ∀ w ∈ Ts, w.before args s = true) (hT : GoodIn Ts (va_wsS own index y ws)) (hw : ws = Cond.codeWith y bytes maxL ret hh :: ws') (hrc : rm.cells = mc) (hrs : rm.slots = ms)
    (hd : y.cls ≠ "java/lang/invoke/MethodHandle" ∧ y.cls ≠ "java/lang/invoke/VarHandle" ∧ (parseMethodDescriptor y.desc).map (fun d => d.parameters.length) = some n) (hR : rm.frames + 1 ≤ R.frames ∧ 8 + (maxL + 11) + rm.locals ≤ R.locals) :
    vx_CSW R s args own index y bytes maxL ret hh ws rm mc ms n := by
  have ok : ∀ w ∈ va_wsS own index y ws, w.before args s = true := fun w h => ht w (hT w h).1
  have hG : GoodIn Ts ws := fun w h => hT w (by unfold va_wsS; exact List.mem_append_right _ h)
  have hc : Cond.codeWith y bytes maxL ret hh ∈ ws := by rw [hw]; exact List.mem_cons_self
  refine ⟨⟨hrc, hrs, hR.1, hR.2, pay_in ht hG, hc⟩, ht _ (hG _ hc).1, ok _ (by simp [va_wsS]), ⟨hd.1, hd.2.1⟩, fun sig h => ?_, ok _ (by simp [va_wsS]), ok _ (by simp [va_wsS])⟩
  have h2 := hd.2.2
  rw [h] at h2
  exact (Option.some.inj h2).symm
theorem vx_callSW (X : Stand p l e R s m args below meth c T locs cells slots) (hexec : p.tables.exec = Jvm.exec) {own : String} {index : Nat} {y : MethodName} {bytes : ByteArray} {maxL : Nat} {ret : Option FieldType} {hh : List (Nat × Nat × Nat × Nat)}
    (hown : s.vm.findClass own = some m.cls) (hlink : (Cond.methodLink own index y).before args s = true) (hstat : (Cond.static y).before args s = true) (hinit : (Cond.initialized y.cls).before args s = true)
    (hcode : (Cond.codeWith y bytes maxL ret hh).before args s = true) (hy : y.cls ≠ "java/lang/invoke/MethodHandle" ∧ y.cls ≠ "java/lang/invoke/VarHandle")
    {W9 : Nat} {Pre : Pt → Array Value → Prop} {Post : Pt → Array Value → Option Value → Pt → Prop} (hK : Back l R p e below s args y 3 W9 Pre Post)
    {g : JFrame} (hg : g.method = m) (hsize : g.locals.size = c.maxLocals) {argsL rest : List Value} (hlen : ∀ sig, parseMethodDescriptor y.desc = some sig → argsL.length = sig.parameters.length)
    (hstack : g.stack = argsL.reverse ++ rest) (hW : 2 * g.monitorRoom + (rest.map fun v => v.category).sum ≤ W9) (hdg : decode c.code g.pc = .ok (.invokestatic index, 3))
    (hpre : ∀ vm₁, s.WarmedH vm₁ → Pre ⟨T.setVm vm₁, locs, cells, slots⟩ argsL.toArray) :
    ∃ (v : Option Value) (vm₁ : Vm) (B : Pt), s.WarmedH vm₁ ∧ Stand p l e R s m args below meth c B.U B.locs B.cells B.slots ∧ Post ⟨T.setVm vm₁, locs, cells, slots⟩ argsL.toArray v B ∧
      ∀ target, Steps p.tables e below (B.U.setTop { g with pc := g.pc + 3, stack := v.toList ++ rest }) target → Steps p.tables e below (T.setTop g) target := by
  obtain ⟨mk, methM, cM, hnamed, hmethM, -, -, -, -, -, -, hsigM⟩ := Cond.codeWith_spec hcode
  have hstatic : methM.isStatic = true := Cond.static_spec hnamed hmethM hstat
  obtain ⟨kP, hkP, -⟩ := className_of_methodNamed hnamed
  have hinitP : kP.init = .initialized := Cond.initialized_spec (findClass_of_methodNamed hnamed) hkP hinit
  obtain ⟨vm₁, X₁, hstep₁⟩ := X.invokestatic hexec hown hlink hnamed hmethM hstatic hkP hinitP hy (g := g) hg (argsL := argsL) (rest := rest) (hlen _ hsigM) hstack hdg
  obtain ⟨v, B, X', hpost, hsteps⟩ := hK m meth c ⟨T.setVm vm₁, locs, cells, slots⟩ { g with stack := rest } (.invokestatic index) mk argsL.toArray X₁ hg hsize hdg hW (X₁.named hnamed) (hpre vm₁ X₁.warmed)
  exact ⟨v, vm₁, B, X₁.warmed, X', hpost, fun target h => hstep₁ _ fun acts => by rw [doInvoke_state]; exact hsteps.trans h⟩
theorem vx_runSW {y : MethodName} {bytes cc : ByteArray} {maxL nL mc ms n index : Nat} {ret : Option FieldType} {hh : List (Nat × Nat × Nat × Nat)} {ws : List Cond} {rm : Room} {Pc : Array Value → State → Prop} {Qc : Array Value → State → Outcome → State → Prop} {free : Addr → Prop} {Ts : List Cond} {own : String} {As rest : List Value} {g : JFrame}
    (S : CallFix p m c cc nL s args Ts own) (hM : Met l y ws rm Pc Qc mc ms free) (cw : vx_CSW R s args own index y bytes maxL ret hh ws rm mc ms n) (hp : PreS s H Pc As)
    (hg : g.method = m) (hn : As.length = n) (hsize : g.locals.size = nL) (hstack : g.stack = As.reverse ++ rest) (hW : 2 * g.monitorRoom + (rest.map fun v => v.category).sum ≤ 8) (hdg : decode cc g.pc = .ok (.invokestatic index, 3)) (hf : cells + mc ≤ R.cells ∧ slots + ms ≤ R.slots) :
    va_Run p l e R s m args below meth c H locs cells slots mc ms g rest (Qc As.toArray) (free) := by
  obtain ⟨⟨hrc, hrs, hfr, hlo, hws, hcw⟩, hcode, hini, hy, hlen, hl, hstt⟩ := cw
  have hK : Back l R p e below s args y 3 8 (PreOf R mc ms Pc) (PostOf Qc mc ms free) := va_backW (hh := hh) (bytes := bytes) (maxL := maxL) (ret := ret) hM hp.1 hrc hrs hfr hlo hws hcw (fun a' U hW => word_at hW (Or.inl (by first | rfl | simp [Cond.onTables, Cond.keeps, Cond.steady])) hini)
  obtain ⟨hx, hb, hml, ho, -⟩ := S
  intro T hT X
  obtain ⟨v, vm₁, ⟨U', l2, c2, s2⟩, hW₁, X', ⟨g', mk, t, L, e1, e2, hq, h1, hL, h2, h3⟩, st⟩ := vx_callSW X hx (hh := hh) (bytes := bytes) (maxL := maxL) (ret := ret) ho hl hstt hini hcode hy hK hg (hsize.trans hml.symm) (argsL := As) (rest := rest) (fun sig h => hn.trans (hlen sig h)) hstack hW (by rw [hb]; exact hdg)
    (fun vm₁ hW₁ => ⟨hf.1, hf.2, hp.2 (T.setVm vm₁) hT hW₁⟩)
  dsimp only [Pt.U, Pt.locs, Pt.cells, Pt.slots] at X' e1 e2 h1 h2 h3 st
  subst h1; subst h2; subst h3
  exact ⟨v, (T.setVm vm₁).calling g' mk As.toArray, t, U', L, hT, X', hL, e1, e2, hq, st⟩
/-- not caught here, past rows that name other classes: it goes on to the caller -/
theorem vx_outP {p : Program} {l : Launch} {e : Env} {R : Room} {s : State} {m : MethodId} {args : Array Value} {below : List Frame} {meth : Method} {c : Code} {H : Heap} {locs : List Loc} {cells slots : Nat} {free : Addr → Prop} {ls : Array Slot} {rest : List Value} {Qc : Array Value → State → Outcome → State → Prop} {XC : String → State → State → Prop}
    {pc : Nat} {own E : String} {ce : Cell} {q : Addr} {mc ms : Nat} (hown : s.vm.findClass own = some m.cls) (hlocks : meth.locks = false)
    (hpass : ∀ z ∈ c.exceptionTable.toList, covers z pc = false ∨ (z.catchType ≠ 0 ∧ ∃ nm : String, (Cond.classLink own z.catchType nm).before args s = true ∧ va_Nc E nm s)) (hcell : H[q]? = some ce) (hv : ce.vm = .none) (hcl : s.vm.findClass E = some ce.cls)
    (hx : ∀ t : State, t.heap = H → s.vm.Alike t.vm → XC E s t) (hf : ∀ z ∈ locs, free z.base) (hc : cells ≤ mc) (hs : slots ≤ ms) :
    vx_W p l e R s m args below meth c H locs cells slots (vx_MQ below Qc XC args s mc ms free) (F0 m pc ls rest) q := by
  intro T hT X
  have hpl : e.platform.magicAccessors = ({} : Platform).magicAccessors := by rw [X.admits.platform]
  obtain ⟨vm', hW', X', st⟩ := X.outThrough hlocks q (g := F0 m pc ls rest) rfl rfl rfl (cell := ce) (by rw [hT]; exact hcell) (by rw [hv]; rfl)
    (by obtain ⟨k9, h9, -⟩ := Vm.findClass_spec hcl; exact ⟨k9, h9⟩) (fun z hz => by
      rcases hpass z hz with h | ⟨hz0, nm, hl1, hn1⟩
      · exact Or.inl h
      · obtain ⟨c6, hc6, hcl6⟩ := Cond.classLink_spec hown hl1 e.platform hpl
        obtain ⟨a8, b8, h1, h2, h3⟩ := hn1
        cases Option.some.inj (h1.symm.trans hcl)
        cases Option.some.inj (h2.symm.trans hc6)
        exact Or.inr ⟨hz0, _, hcl6, h3⟩)
  obtain ⟨g₀, hfr⟩ := X'.frames_eq
  have hcell9 : ((T.setVm vm').setFrames (.throwing q :: below)).heap[q]? = some ce := by
    show T.heap[q]? = some ce
    rw [hT]; exact hcell
  have hend : Ended ((T.setVm vm').setFrames (.throwing q :: below)) below (.threw q) := State.frames_setFrames _ (State.cur_lt_of_frames hfr)
  refine ⟨(T.setVm vm').setFrames (.throwing q :: below), ?_, .threw q, X'.here.running, hend, Or.inr ⟨q, rfl, E, ce, locs, hx _ hT (X'.ends _).1.alike, hcell9, hv, hcl, (X'.ends _).1, (X'.ends _).2.mono hc hs, hf⟩⟩
  rw [X.pushThrowing_eq]
  exact st
/-- a thing of a world lies in the heap -/
theorem vx_lt {D : va_G} {cl : List vw_C} {ws : va_W} {H1 : Heap} (h : va_P D cl ws H1) {k : Nat} {q : Nat × va_E} (hk : ws[k]? = some q) : q.1 < H1.size := (h k q hk).lt
end VXS
/-! ===== END ===== -/
/-! ===== BEGIN methods with a table of their own: called by a name, returning or throwing ===== -/
section VXH
/-! vx_backW, vx_callVX, vx_callSX, vx_callVW, vx_runVW, vx_runVX, vx_runSX, vx_ofWH follow the same proofs as their sisters above (Free/Laws.lean, Shelf42/LK1.lean); vx_outP calls Shelf42/NT130.lean (outThrough). -/
section
variable {l : Launch} {R : Room} {p : Program} {e : Env} {below : List Frame} {s : State} {sargs : Array Value} {y : MethodName} {len W9 : Nat}
theorem vx_backW {ws : List Cond} {rm : Room} {Pc : Array Value → State → Prop} {Qc : Array Value → State → Outcome → State → Prop} {XC : String → State → State → Prop} {mc ms : Nat} {free : Addr → Prop} {bytes : ByteArray} {maxL : Nat} {ret : Option FieldType} {hh : List (Nat × Nat × Nat × Nat)}
    (hM : vx_Met l y ws rm Pc Qc XC mc ms free) (hblind : FrameBlind Pc) (hrc : rm.cells = mc) (hrs : rm.slots = ms)
    (hframes : rm.frames + 1 ≤ R.frames) (hlocals : W9 + (maxL + 11) + rm.locals ≤ R.locals)
    (hws : ∀ w ∈ ws, ∀ a' U, s.WarmedH U.vm → w.before a' U = true) (hcode : Cond.codeWith y bytes maxL ret hh ∈ ws) (hinit : ∀ a' U, s.WarmedH U.vm → (Cond.initialized y.cls).before a' U = true) :
    vx_Back l R p e below s sargs y len W9 (PreOf R mc ms Pc) (PostOf Qc mc ms free) (vx_Post XC mc ms free) := by
  intro m meth c A g ig mk a X hg hsize hdg hW hn hp
  have h1 : (headSpec ws rm).pre.before a A.U = true := atoms_intro fun w hw => hws w hw _ _ X.warmed
  have h2 : (Cond.codeWith y bytes maxL ret hh).before a A.U = true := hws _ hcode _ _ X.warmed
  have h3 : (Cond.initialized y.cls).before a A.U = true := hinit _ _ X.warmed
  have h4 : A.cells + (headSpec ws rm).room.cells ≤ R.cells := by rw [show (headSpec ws rm).room.cells = mc from hrc]; exact hp.1
  have h5 : A.slots + (headSpec ws rm).room.slots ≤ R.slots := by rw [show (headSpec ws rm).room.slots = ms from hrs]; exact hp.2.1
  have hPc : Pc a (A.U.calling g mk a) := hblind _ _ _ _ hp.2.2
  obtain ⟨U, Ls, c0, s0⟩ := A
  dsimp only [Pt.U, Pt.locs, Pt.cells, Pt.slots] at h1 h2 h3 h4 h5 X hn hPc ⊢
  obtain ⟨m9, methY, cY, hn9, hmY, hcY, -, hlY, -⟩ := Cond.codeWith_spec h2
  cases Option.some.inj (hn9.symm.trans hn)
  obtain ⟨kY, hkY, -⟩ := className_of_methodNamed hn
  have hinitY : kY.init = .initialized := Cond.initialized_spec (findClass_of_methodNamed hn) hkY h3
  have h : At U g.method c below := by rw [hg]; exact X.here
  have hlocals9 : W9 + (maxL + 11) + (headSpec ws rm).room.locals ≤ R.locals := hlocals
  have happ : (headSpec ws rm).appliesLoose y e.platform (U.calling g mk a) = true :=
    Spec.appliesLoose_calling (g := g) h hdg hn hkY hinitY
      (X.room_calling (g := g) (R' := (headSpec ws rm).room) hsize hmY hcY hframes (by rw [hlY]; omega) h4 h5) h1
  obtain ⟨mid, hmid⟩ := h.above
  have hfr : (U.setTop g).frames = (.java g :: mid) ++ below := by rw [State.frames_setTop' g h.top, hmid]; rfl
  obtain ⟨o, s₂, hsteps, -, hend, hq⟩ := Steps.callFree hM p X.admits X.cas X.clock (acts := []) hfr happ hPc trivial
  have hq' : vx_Q Qc XC mc ms free a (U.calling g mk a) o s₂ := hq
  rw [State.frames_setTop' g h.top] at hend
  obtain ⟨g₀, hg0⟩ := Option.isSome_iff_exists.mp h.top
  obtain ⟨r, hr⟩ := State.topJava?_eq_some.mp hg0
  have hr' : (({ U with heap := s₂.heap, slotsUsed := s₂.slotsUsed } : State).setVm s₂.vm).frames = .java g₀ :: r := hr
  rcases hq' with ⟨hqc, L, hfe, hL⟩ | ⟨q, rfl, E, ce, L, hx, hce, hcv, hcl, hW₂, hsm, hL⟩
  · obtain ⟨⟨v, rfl⟩, hW₂, e2, q2, q3, q4, q5, q6⟩ := id hfe
    have e3 : s₂ = ({ (U.calling g mk a).setFrames s₂.frames with heap := s₂.heap, slotsUsed := s₂.slotsUsed } : State).setVm s₂.vm := by
      have : s₂ = ({ s₂ with vm := (U.calling g mk a).vm } : State).setVm s₂.vm := rfl
      rw [e2] at this
      exact this
    obtain ⟨c₂, i₂, len₂, hc₂, hd₂, hf₂⟩ := hend
    have hW' : U.WarmedH s₂.vm := hW₂
    have hcc : c₂ = c := by
      have h1 : s₂.code? g.method = U.code? g.method := by
        rw [State.code?_eq, State.code?_eq, hW'.alike.method?]
      exact Option.some.inj (hc₂.symm.trans (h1.trans h.code))
    subst hcc
    have hlen : len₂ = len := by rw [hdg] at hd₂; cases hd₂; rfl
    subst hlen
    have hs₂ : s₂ = (({ U with heap := s₂.heap, slotsUsed := s₂.slotsUsed } : State).setVm s₂.vm).setTop { g with pc := g.pc + len₂, stack := v.toList ++ g.stack } := by
      refine e3.trans ?_
      rw [hf₂, State.calling_eq h.top, State.setFrames_setFrames, State.setTop_of_frames _ hr', hr]
      rfl
    have hsame : U.sameButNew ({ U with heap := s₂.heap, slotsUsed := s₂.slotsUsed } : State) L mc ms := by
      refine ⟨?_, q2, q3, q4, q5, q6⟩
      obtain ⟨t, ht, -⟩ := State.frames_cons hr
      show ({ U with heap := s₂.heap, slotsUsed := s₂.slotsUsed } : State) = { U.setFrames U.frames with heap := s₂.heap, slotsUsed := s₂.slotsUsed }
      rw [State.setFrames_self ht]
    subst hg
    refine Or.inl ⟨v, ⟨(({ U with heap := s₂.heap, slotsUsed := s₂.slotsUsed } : State).setVm s₂.vm), Ls ++ L, c0 + mc, s0 + ms⟩,
      ⟨X.admits, X.cas, X.clock, X.frames, X.room, X.hears, X.method, X.code, (X.here.setHeapUsed s₂.heap s₂.slotsUsed).setVm hW'.alike, X.tail, State.WarmedH.trans X.warmed hW', X.limits, X.bytes, X.same.trans (hsame.setVm s.vm)⟩,
      ⟨g, mk, s₂, L, rfl, rfl, hqc, rfl, hL, rfl, rfl⟩, ?_⟩
    show Steps p.tables e below _ ((({ U with heap := s₂.heap, slotsUsed := s₂.slotsUsed } : State).setVm s₂.vm).setTop { g with pc := g.pc + len₂, stack := v.toList ++ g.stack })
    rw [← hs₂]
    exact hsteps
  · obtain ⟨e2, q2, q3, q4, q5, q6⟩ := id hsm
    have e3 : s₂ = ({ (U.calling g mk a).setFrames s₂.frames with heap := s₂.heap, slotsUsed := s₂.slotsUsed } : State).setVm s₂.vm := by
      have : s₂ = ({ s₂ with vm := (U.calling g mk a).vm } : State).setVm s₂.vm := rfl
      rw [e2] at this
      exact this
    have hf₂ : s₂.frames = .throwing q :: .java g :: U.frames.tail := hend
    have hW' : U.WarmedH s₂.vm := hW₂
    have hs₂ : s₂ = ((({ U with heap := s₂.heap, slotsUsed := s₂.slotsUsed } : State).setVm s₂.vm).setTop g).pushFrame (.throwing q) := by
      refine e3.trans ?_
      rw [hf₂, State.calling_eq h.top, State.setFrames_setFrames, State.pushFrame, State.frames_setTop _ hr', State.setTop_of_frames _ hr', State.setFrames_setFrames, hr]
      rfl
    have hsame : U.sameButNew ({ U with heap := s₂.heap, slotsUsed := s₂.slotsUsed } : State) L mc ms := by
      refine ⟨?_, q2, q3, q4, q5, q6⟩
      obtain ⟨t, ht, -⟩ := State.frames_cons hr
      show ({ U with heap := s₂.heap, slotsUsed := s₂.slotsUsed } : State) = { U.setFrames U.frames with heap := s₂.heap, slotsUsed := s₂.slotsUsed }
      rw [State.setFrames_self ht]
    subst hg
    refine Or.inr ⟨q, ⟨(({ U with heap := s₂.heap, slotsUsed := s₂.slotsUsed } : State).setVm s₂.vm), Ls ++ L, c0 + mc, s0 + ms⟩,
      ⟨X.admits, X.cas, X.clock, X.frames, X.room, X.hears, X.method, X.code, (X.here.setHeapUsed s₂.heap s₂.slotsUsed).setVm hW'.alike, X.tail, State.WarmedH.trans X.warmed hW', X.limits, X.bytes, X.same.trans (hsame.setVm s.vm)⟩,
      ⟨g, mk, s₂, L, E, ce, rfl, rfl, hx, hce, hcv, hcl, rfl, hL, rfl, rfl⟩, ?_⟩
    show Steps p.tables e below _ (((({ U with heap := s₂.heap, slotsUsed := s₂.slotsUsed } : State).setVm s₂.vm).setTop g).pushFrame (.throwing q))
    rw [← hs₂]
    exact hsteps
end
variable {p : Program} {l : Launch} {e : Env} {R : Room} {s : State} {m : MethodId} {args : Array Value} {below : List Frame} {meth : Method} {c : Code} {T : State} {H : Heap} {locs : List Loc} {cells slots : Nat}
theorem vx_callVX (X : Stand p l e R s m args below meth c T locs cells slots) (hexec : p.tables.exec = Jvm.exec) {own C : String} {index : Nat} {y : MethodName} {bytes : ByteArray} {maxL : Nat} {ret : Option FieldType} {hh : List (Nat × Nat × Nat × Nat)}
    (hown : s.vm.findClass own = some m.cls) (hlink : (Cond.methodLink own index y).before args s = true) (hinst : (Cond.instanceMethod y).before args s = true) (hsel : (Cond.selects C y y).before args s = true)
    (hcode : (Cond.codeWith y bytes maxL ret hh).before args s = true) (hy : y.cls ≠ "java/lang/invoke/MethodHandle" ∧ y.cls ≠ "java/lang/invoke/VarHandle")
    {W9 : Nat} {Pre : Pt → Array Value → Prop} {Post : Pt → Array Value → Option Value → Pt → Prop} {PostX : Pt → Array Value → Addr → Pt → Prop} (hK : vx_Back l R p e below s args y 3 W9 Pre Post PostX)
    {b : Addr} {cellB : Cell} (hcell : T.heap[b]? = some cellB) (hobj : cellB.vm.isStatics = false) (hcls : s.vm.findClass C = some cellB.cls)
    {g : JFrame} (hg : g.method = m) (hsize : g.locals.size = c.maxLocals) {argsL rest : List Value} (hlen : ∀ sig, parseMethodDescriptor y.desc = some sig → argsL.length = sig.parameters.length)
    (hstack : g.stack = argsL.reverse ++ .ref b :: rest) (hW : 2 * g.monitorRoom + (rest.map fun v => v.category).sum ≤ W9) (hdg : decode c.code g.pc = .ok (.invokevirtual index, 3))
    (hpre : ∀ vm₁, s.WarmedH vm₁ → Pre ⟨T.setVm vm₁, locs, cells, slots⟩ (Value.ref b :: argsL).toArray) :
    (∃ (v : Option Value) (vm₁ : Vm) (B : Pt), s.WarmedH vm₁ ∧ Stand p l e R s m args below meth c B.U B.locs B.cells B.slots ∧ Post ⟨T.setVm vm₁, locs, cells, slots⟩ (Value.ref b :: argsL).toArray v B ∧
      ∀ target, Steps p.tables e below (B.U.setTop { g with pc := g.pc + 3, stack := v.toList ++ rest }) target → Steps p.tables e below (T.setTop g) target) ∨
    (∃ (q : Addr) (vm₁ : Vm) (B : Pt), s.WarmedH vm₁ ∧ Stand p l e R s m args below meth c B.U B.locs B.cells B.slots ∧ PostX ⟨T.setVm vm₁, locs, cells, slots⟩ (Value.ref b :: argsL).toArray q B ∧
      Steps p.tables e below (T.setTop g) ((B.U.setTop { g with stack := rest }).pushFrame (.throwing q))) := by
  obtain ⟨mk, methM, hnamed, hmethM, hstM, habM⟩ := Cond.instanceMethod_spec hinst
  obtain ⟨m8, methM', cM, hn8, hmethM', -, -, -, -, -, -, hsigM⟩ := Cond.codeWith_spec hcode
  cases Option.some.inj (hn8.symm.trans hnamed)
  cases hmethM.symm.trans hmethM'
  obtain ⟨c2, r2, m2, q1, q2, q3, q4, kP, hkP, hkPi⟩ := Cond.selects_spec hsel
  cases hcls.symm.trans q1
  cases (State.methodFound?_of_named hnamed hy).symm.trans q2
  cases hnamed.symm.trans q3
  have hselP : selectMethod e.platform s.vm cellB.cls mk = .method mk := by rw [Launch.admits_selectMethod X.admits]; exact q4
  obtain ⟨vm₁, X₁, hstep₁⟩ := X.invokevirtual hexec hown hlink hnamed hmethM hstM hkP hkPi hy (a := b) (cell := cellB) hcell
    (fun z h => by rw [h] at hobj; cases hobj) hselP hmethM habM hkP hkPi (g := g) hg (argsL := argsL) (rest := rest) (hlen _ hsigM) hstack hdg
  rcases hK m meth c ⟨T.setVm vm₁, locs, cells, slots⟩ { g with stack := rest } (.invokevirtual index) mk (Value.ref b :: argsL).toArray X₁ hg hsize hdg hW (X₁.named hnamed) (hpre vm₁ X₁.warmed) with ⟨v, B, X', hpost, hsteps⟩ | ⟨q, B, X', hpost, hsteps⟩
  · exact Or.inl ⟨v, vm₁, B, X₁.warmed, X', hpost, fun target h => hstep₁ _ fun acts => by rw [doInvoke_state]; exact hsteps.trans h⟩
  · exact Or.inr ⟨q, vm₁, B, X₁.warmed, X', hpost, hstep₁ _ fun acts => by rw [doInvoke_state]; exact hsteps⟩
theorem vx_callSX (X : Stand p l e R s m args below meth c T locs cells slots) (hexec : p.tables.exec = Jvm.exec) {own : String} {index : Nat} {y : MethodName} {bytes : ByteArray} {maxL : Nat} {ret : Option FieldType} {hh : List (Nat × Nat × Nat × Nat)}
    (hown : s.vm.findClass own = some m.cls) (hlink : (Cond.methodLink own index y).before args s = true) (hstat : (Cond.static y).before args s = true) (hinit : (Cond.initialized y.cls).before args s = true)
    (hcode : (Cond.codeWith y bytes maxL ret hh).before args s = true) (hy : y.cls ≠ "java/lang/invoke/MethodHandle" ∧ y.cls ≠ "java/lang/invoke/VarHandle")
    {W9 : Nat} {Pre : Pt → Array Value → Prop} {Post : Pt → Array Value → Option Value → Pt → Prop} {PostX : Pt → Array Value → Addr → Pt → Prop} (hK : vx_Back l R p e below s args y 3 W9 Pre Post PostX)
    {g : JFrame} (hg : g.method = m) (hsize : g.locals.size = c.maxLocals) {argsL rest : List Value} (hlen : ∀ sig, parseMethodDescriptor y.desc = some sig → argsL.length = sig.parameters.length)
    (hstack : g.stack = argsL.reverse ++ rest) (hW : 2 * g.monitorRoom + (rest.map fun v => v.category).sum ≤ W9) (hdg : decode c.code g.pc = .ok (.invokestatic index, 3))
    (hpre : ∀ vm₁, s.WarmedH vm₁ → Pre ⟨T.setVm vm₁, locs, cells, slots⟩ argsL.toArray) :
    (∃ (v : Option Value) (vm₁ : Vm) (B : Pt), s.WarmedH vm₁ ∧ Stand p l e R s m args below meth c B.U B.locs B.cells B.slots ∧ Post ⟨T.setVm vm₁, locs, cells, slots⟩ argsL.toArray v B ∧
      ∀ target, Steps p.tables e below (B.U.setTop { g with pc := g.pc + 3, stack := v.toList ++ rest }) target → Steps p.tables e below (T.setTop g) target) ∨
    (∃ (q : Addr) (vm₁ : Vm) (B : Pt), s.WarmedH vm₁ ∧ Stand p l e R s m args below meth c B.U B.locs B.cells B.slots ∧ PostX ⟨T.setVm vm₁, locs, cells, slots⟩ argsL.toArray q B ∧
      Steps p.tables e below (T.setTop g) ((B.U.setTop { g with stack := rest }).pushFrame (.throwing q))) := by
  obtain ⟨mk, methM, cM, hnamed, hmethM, -, -, -, -, -, -, hsigM⟩ := Cond.codeWith_spec hcode
  have hstatic : methM.isStatic = true := Cond.static_spec hnamed hmethM hstat
  obtain ⟨kP, hkP, -⟩ := className_of_methodNamed hnamed
  have hinitP : kP.init = .initialized := Cond.initialized_spec (findClass_of_methodNamed hnamed) hkP hinit
  obtain ⟨vm₁, X₁, hstep₁⟩ := X.invokestatic hexec hown hlink hnamed hmethM hstatic hkP hinitP hy (g := g) hg (argsL := argsL) (rest := rest) (hlen _ hsigM) hstack hdg
  rcases hK m meth c ⟨T.setVm vm₁, locs, cells, slots⟩ { g with stack := rest } (.invokestatic index) mk argsL.toArray X₁ hg hsize hdg hW (X₁.named hnamed) (hpre vm₁ X₁.warmed) with ⟨v, B, X', hpost, hsteps⟩ | ⟨q, B, X', hpost, hsteps⟩
  · exact Or.inl ⟨v, vm₁, B, X₁.warmed, X', hpost, fun target h => hstep₁ _ fun acts => by rw [doInvoke_state]; exact hsteps.trans h⟩
  · exact Or.inr ⟨q, vm₁, B, X₁.warmed, X', hpost, hstep₁ _ fun acts => by rw [doInvoke_state]; exact hsteps⟩
theorem vx_callVW (X : Stand p l e R s m args below meth c T locs cells slots) (hexec : p.tables.exec = Jvm.exec) {own C : String} {index : Nat} {y : MethodName} {bytes : ByteArray} {maxL : Nat} {ret : Option FieldType} {hh : List (Nat × Nat × Nat × Nat)}
    (hown : s.vm.findClass own = some m.cls) (hlink : (Cond.methodLink own index y).before args s = true) (hinst : (Cond.instanceMethod y).before args s = true) (hsel : (Cond.selects C y y).before args s = true)
    (hcode : (Cond.codeWith y bytes maxL ret hh).before args s = true) (hy : y.cls ≠ "java/lang/invoke/MethodHandle" ∧ y.cls ≠ "java/lang/invoke/VarHandle")
    {W9 : Nat} {Pre : Pt → Array Value → Prop} {Post : Pt → Array Value → Option Value → Pt → Prop} (hK : Back l R p e below s args y 3 W9 Pre Post)
    {b : Addr} {cellB : Cell} (hcell : T.heap[b]? = some cellB) (hobj : cellB.vm.isStatics = false) (hcls : s.vm.findClass C = some cellB.cls)
    {g : JFrame} (hg : g.method = m) (hsize : g.locals.size = c.maxLocals) {argsL rest : List Value} (hlen : ∀ sig, parseMethodDescriptor y.desc = some sig → argsL.length = sig.parameters.length)
    (hstack : g.stack = argsL.reverse ++ .ref b :: rest) (hW : 2 * g.monitorRoom + (rest.map fun v => v.category).sum ≤ W9) (hdg : decode c.code g.pc = .ok (.invokevirtual index, 3))
    (hpre : ∀ vm₁, s.WarmedH vm₁ → Pre ⟨T.setVm vm₁, locs, cells, slots⟩ (Value.ref b :: argsL).toArray) :
    ∃ (v : Option Value) (vm₁ : Vm) (B : Pt), s.WarmedH vm₁ ∧ Stand p l e R s m args below meth c B.U B.locs B.cells B.slots ∧ Post ⟨T.setVm vm₁, locs, cells, slots⟩ (Value.ref b :: argsL).toArray v B ∧
      ∀ target, Steps p.tables e below (B.U.setTop { g with pc := g.pc + 3, stack := v.toList ++ rest }) target → Steps p.tables e below (T.setTop g) target := by
  obtain ⟨mk, methM, hnamed, hmethM, hstM, habM⟩ := Cond.instanceMethod_spec hinst
  obtain ⟨m8, methM', cM, hn8, hmethM', -, -, -, -, -, -, hsigM⟩ := Cond.codeWith_spec hcode
  cases Option.some.inj (hn8.symm.trans hnamed)
  cases hmethM.symm.trans hmethM'
  obtain ⟨c2, r2, m2, q1, q2, q3, q4, kP, hkP, hkPi⟩ := Cond.selects_spec hsel
  cases hcls.symm.trans q1
  cases (State.methodFound?_of_named hnamed hy).symm.trans q2
  cases hnamed.symm.trans q3
  have hselP : selectMethod e.platform s.vm cellB.cls mk = .method mk := by rw [Launch.admits_selectMethod X.admits]; exact q4
  obtain ⟨vm₁, X₁, hstep₁⟩ := X.invokevirtual hexec hown hlink hnamed hmethM hstM hkP hkPi hy (a := b) (cell := cellB) hcell
    (fun z h => by rw [h] at hobj; cases hobj) hselP hmethM habM hkP hkPi (g := g) hg (argsL := argsL) (rest := rest) (hlen _ hsigM) hstack hdg
  obtain ⟨v, B, X', hpost, hsteps⟩ := hK m meth c ⟨T.setVm vm₁, locs, cells, slots⟩ { g with stack := rest } (.invokevirtual index) mk (Value.ref b :: argsL).toArray X₁ hg hsize hdg hW (X₁.named hnamed) (hpre vm₁ X₁.warmed)
  exact ⟨v, vm₁, B, X₁.warmed, X', hpost, fun target h => hstep₁ _ fun acts => by rw [doInvoke_state]; exact hsteps.trans h⟩
abbrev vx_CVW (R : Room) (s : State) (args : Array Value) (own C : String) (index : Nat) (y : MethodName) (bytes : ByteArray) (maxL : Nat) (ret : Option FieldType) (hh : List (Nat × Nat × Nat × Nat)) (ws : List Cond) (rm : Room) (mc ms n : Nat) : Prop :=
  (rm.cells = mc ∧ rm.slots = ms ∧ rm.frames + 1 ≤ R.frames ∧ 8 + (maxL + 11) + rm.locals ≤ R.locals ∧ (∀ w ∈ ws, ∀ (a' : Array Value) (U : State), s.WarmedH U.vm → w.before a' U = true) ∧ Cond.codeWith y bytes maxL ret hh ∈ ws) ∧
  (Cond.codeWith y bytes maxL ret hh).before args s = true ∧ (Cond.initialized y.cls).before args s = true ∧ (y.cls ≠ "java/lang/invoke/MethodHandle" ∧ y.cls ≠ "java/lang/invoke/VarHandle") ∧
  (∀ sig, parseMethodDescriptor y.desc = some sig → n = sig.parameters.length) ∧ (Cond.methodLink own index y).before args s = true ∧ (Cond.instanceMethod y).before args s = true ∧ (Cond.selects C y y).before args s = true
theorem vx_cwVW {own C : String} {index maxL mc ms : Nat} {y : MethodName} {bytes : ByteArray} {ret : Option FieldType} {hh : List (Nat × Nat × Nat × Nat)} {Ts ws ws' : List Cond} {rm : Room} (n : Nat) (ht : ∀ w ∈ Ts, w.before args s = true) (hT : GoodIn Ts (wsV own index C y ws)) (hw : ws = Cond.codeWith y bytes maxL ret hh :: ws') (hrc : rm.cells = mc) (hrs : rm.slots = ms)
    (hd : y.cls = C ∧ y.cls ≠ "java/lang/invoke/MethodHandle" ∧ y.cls ≠ "java/lang/invoke/VarHandle" ∧ (parseMethodDescriptor y.desc).map (fun d => d.parameters.length) = some n) (hR : rm.frames + 1 ≤ R.frames ∧ 8 + (maxL + 11) + rm.locals ≤ R.locals) :
    vx_CVW R s args own C index y bytes maxL ret hh ws rm mc ms n := by
  obtain ⟨hC, hd⟩ := hd
  subst hC
  have ok : ∀ w ∈ wsV own index y.cls y ws, w.before args s = true := fun w h => ht w (hT w h).1
  have hG : GoodIn Ts ws := fun w h => hT w (by unfold wsV; exact List.mem_append_right _ h)
  have hc : Cond.codeWith y bytes maxL ret hh ∈ ws := by rw [hw]; exact List.mem_cons_self
  refine ⟨⟨hrc, hrs, hR.1, hR.2, pay_in ht hG, hc⟩, ht _ (hG _ hc).1, ok _ (by simp [wsV]), ⟨hd.1, hd.2.1⟩, fun sig h => ?_, ok _ (by simp [wsV]), ok _ (by simp [wsV]), ok _ (by simp [wsV])⟩
  have h2 := hd.2.2
  rw [h] at h2
  exact (Option.some.inj h2).symm
theorem vx_runVW {y : MethodName} {bytes cc : ByteArray} {maxL nL mc ms n index : Nat} {ret : Option FieldType} {hh : List (Nat × Nat × Nat × Nat)} {ws : List Cond} {rm : Room} {Pc : Array Value → State → Prop} {Qc : Array Value → State → Outcome → State → Prop} {free : Addr → Prop} {Ts : List Cond} {own C : String} {b : Addr} {As rest : List Value} {g : JFrame}
    (S : CallFix p m c cc nL s args Ts own) (hM : Met l y ws rm Pc Qc mc ms free) (cw : vx_CVW R s args own C index y bytes maxL ret hh ws rm mc ms n) (hp : PreV s H C b Pc As)
    (hg : g.method = m) (hn : As.length = n) (hsize : g.locals.size = nL) (hstack : g.stack = As.reverse ++ .ref b :: rest) (hW : 2 * g.monitorRoom + (rest.map fun v => v.category).sum ≤ 8) (hdg : decode cc g.pc = .ok (.invokevirtual index, 3)) (hf : cells + mc ≤ R.cells ∧ slots + ms ≤ R.slots) :
    va_Run p l e R s m args below meth c H locs cells slots mc ms g rest (Qc (Value.ref b :: As).toArray) free := by
  obtain ⟨⟨hrc, hrs, hfr, hlo, hws, hcw⟩, hcode, hini, hy, hlen, hl, hin, hse⟩ := cw
  have hK : Back l R p e below s args y 3 8 (PreOf R mc ms Pc) (PostOf Qc mc ms free) := va_backW (hh := hh) (bytes := bytes) (maxL := maxL) (ret := ret) hM hp.1 hrc hrs hfr hlo hws hcw (fun a' U hW => word_at hW (Or.inl (by first | rfl | simp [Cond.onTables, Cond.keeps, Cond.steady])) hini)
  obtain ⟨hx, hb, hml, ho, -⟩ := S
  obtain ⟨-, ⟨cellB, hcB, hoB, hclB⟩, hPc⟩ := hp
  intro T hT X
  obtain ⟨v, vm₁, ⟨U', l2, c2, s2⟩, hW₁, X', ⟨g', mk, t, L, e1, e2, hq, h1, hL, h2, h3⟩, st⟩ := vx_callVW X hx (C := C) (hh := hh) (bytes := bytes) (maxL := maxL) (ret := ret) ho hl hin hse hcode hy hK (by rw [hT]; exact hcB) hoB hclB hg (hsize.trans hml.symm) (argsL := As) (rest := rest) (fun sig h => hn.trans (hlen sig h)) hstack hW (by rw [hb]; exact hdg)
    (fun vm₁ hW₁ => ⟨hf.1, hf.2, hPc (T.setVm vm₁) hT hW₁⟩)
  dsimp only [Pt.U, Pt.locs, Pt.cells, Pt.slots] at X' e1 e2 h1 h2 h3 st
  subst h1; subst h2; subst h3
  exact ⟨v, (T.setVm vm₁).calling g' mk (Value.ref b :: As).toArray, t, U', L, hT, X', hL, e1, e2, hq, st⟩
section
variable {y : MethodName} {bytes cc : ByteArray} {maxL nL mc ms n index : Nat} {ret : Option FieldType} {ws : List Cond} {rm : Room} {Pc : Array Value → State → Prop} {Qc : Array Value → State → Outcome → State → Prop} {XC : String → State → State → Prop} {free : Addr → Prop} {Ts : List Cond} {own C : String} {b : Addr} {As rest : List Value} {g : JFrame}
theorem vx_runVX {hh : List (Nat × Nat × Nat × Nat)} (S : CallFix p m c cc nL s args Ts own) (hM : vx_Met l y ws rm Pc Qc XC mc ms free) (cw : vx_CVW R s args own C index y bytes maxL ret hh ws rm mc ms n) (hp : PreV s H C b Pc As)
    (hg : g.method = m) (hn : As.length = n) (hsize : g.locals.size = nL) (hstack : g.stack = As.reverse ++ .ref b :: rest) (hW : 2 * g.monitorRoom + (rest.map fun v => v.category).sum ≤ 8) (hdg : decode cc g.pc = .ok (.invokevirtual index, 3)) (hf : cells + mc ≤ R.cells ∧ slots + ms ≤ R.slots) :
    vx_Run p l e R s m args below meth c H locs cells slots mc ms g rest (Qc (Value.ref b :: As).toArray) XC free := by
  obtain ⟨⟨hrc, hrs, hfr, hlo, hws, hcw⟩, hcode, hini, hy, hlen, hl, hin, hse⟩ := cw
  have hK : vx_Back l R p e below s args y 3 8 (PreOf R mc ms Pc) (PostOf Qc mc ms free) (vx_Post XC mc ms free) := vx_backW (hh := hh) (bytes := bytes) (maxL := maxL) (ret := ret) hM hp.1 hrc hrs hfr hlo hws hcw (fun a' U hW => word_at hW (Or.inl (by first | rfl | simp [Cond.onTables, Cond.keeps, Cond.steady])) hini)
  obtain ⟨hx, hb, hml, ho, -⟩ := S
  obtain ⟨-, ⟨cellB, hcB, hoB, hclB⟩, hPc⟩ := hp
  intro T hT X
  rcases vx_callVX X hx (C := C) (hh := hh) (bytes := bytes) (maxL := maxL) (ret := ret) ho hl hin hse hcode hy hK (by rw [hT]; exact hcB) hoB hclB hg (hsize.trans hml.symm) (argsL := As) (rest := rest) (fun sig h => hn.trans (hlen sig h)) hstack hW (by rw [hb]; exact hdg)
    (fun vm₁ hW₁ => ⟨hf.1, hf.2, hPc (T.setVm vm₁) hT hW₁⟩) with ⟨v, vm₁, ⟨U', l2, c2, s2⟩, hW₁, X', ⟨g', mk, t, L, e1, e2, hq, h1, hL, h2, h3⟩, st⟩ | ⟨q, vm₁, ⟨U', l2, c2, s2⟩, hW₁, X', ⟨g', mk, t, L, E, ce, e1, e2, hq, hce, hcv, hcl, h1, hL, h2, h3⟩, st⟩
  · dsimp only [Pt.U, Pt.locs, Pt.cells, Pt.slots] at X' e1 e2 h1 h2 h3 st
    subst h1; subst h2; subst h3
    exact Or.inl ⟨v, (T.setVm vm₁).calling g' mk (Value.ref b :: As).toArray, t, U', L, hT, X', hL, e1, e2, hq, st⟩
  · dsimp only [Pt.U, Pt.locs, Pt.cells, Pt.slots] at X' e1 e2 h1 h2 h3 st hcl
    subst h1; subst h2; subst h3
    exact Or.inr ⟨q, (T.setVm vm₁).calling g' mk (Value.ref b :: As).toArray, t, U', L, E, ce, hT, X', hL, e1, e2, hq, hce, hcv, vx_cls hW₁ hcl, st⟩
theorem vx_runSX {hh : List (Nat × Nat × Nat × Nat)} (S : CallFix p m c cc nL s args Ts own) (hM : vx_Met l y ws rm Pc Qc XC mc ms free) (cw : vx_CSW R s args own index y bytes maxL ret hh ws rm mc ms n) (hp : PreS s H Pc As)
    (hg : g.method = m) (hn : As.length = n) (hsize : g.locals.size = nL) (hstack : g.stack = As.reverse ++ rest) (hW : 2 * g.monitorRoom + (rest.map fun v => v.category).sum ≤ 8) (hdg : decode cc g.pc = .ok (.invokestatic index, 3)) (hf : cells + mc ≤ R.cells ∧ slots + ms ≤ R.slots) :
    vx_Run p l e R s m args below meth c H locs cells slots mc ms g rest (Qc As.toArray) XC free := by
  obtain ⟨⟨hrc, hrs, hfr, hlo, hws, hcw⟩, hcode, hini, hy, hlen, hl, hstt⟩ := cw
  have hK : vx_Back l R p e below s args y 3 8 (PreOf R mc ms Pc) (PostOf Qc mc ms free) (vx_Post XC mc ms free) := vx_backW (hh := hh) (bytes := bytes) (maxL := maxL) (ret := ret) hM hp.1 hrc hrs hfr hlo hws hcw (fun a' U hW => word_at hW (Or.inl (by first | rfl | simp [Cond.onTables, Cond.keeps, Cond.steady])) hini)
  obtain ⟨hx, hb, hml, ho, -⟩ := S
  intro T hT X
  rcases vx_callSX X hx (hh := hh) (bytes := bytes) (maxL := maxL) (ret := ret) ho hl hstt hini hcode hy hK hg (hsize.trans hml.symm) (argsL := As) (rest := rest) (fun sig h => hn.trans (hlen sig h)) hstack hW (by rw [hb]; exact hdg)
    (fun vm₁ hW₁ => ⟨hf.1, hf.2, hp.2 (T.setVm vm₁) hT hW₁⟩) with ⟨v, vm₁, ⟨U', l2, c2, s2⟩, hW₁, X', ⟨g', mk, t, L, e1, e2, hq, h1, hL, h2, h3⟩, st⟩ | ⟨q, vm₁, ⟨U', l2, c2, s2⟩, hW₁, X', ⟨g', mk, t, L, E, ce, e1, e2, hq, hce, hcv, hcl, h1, hL, h2, h3⟩, st⟩
  · dsimp only [Pt.U, Pt.locs, Pt.cells, Pt.slots] at X' e1 e2 h1 h2 h3 st
    subst h1; subst h2; subst h3
    exact Or.inl ⟨v, (T.setVm vm₁).calling g' mk As.toArray, t, U', L, hT, X', hL, e1, e2, hq, st⟩
  · dsimp only [Pt.U, Pt.locs, Pt.cells, Pt.slots] at X' e1 e2 h1 h2 h3 st hcl
    subst h1; subst h2; subst h3
    exact Or.inr ⟨q, (T.setVm vm₁).calling g' mk As.toArray, t, U', L, E, ce, hT, X', hL, e1, e2, hq, hce, hcv, vx_cls hW₁ hcl, st⟩
end
end VXH
theorem vx_ofWH {l : Launch} {y : MethodName} {ws ws' : List Cond} {rm : Room} {Pc : Array Value → State → Prop} {Qc : Array Value → State → Outcome → State → Prop} {XC : String → State → State → Prop} {mc ms : Nat} {free : Addr → Prop} {cc : ByteArray} {maxL : Nat} {ret : Option FieldType} {hh : List (Nat × Nat × Nat × Nat)}
    (hy : plainName y.cls = true) (hw : ws = Cond.codeWith y cc maxL ret hh :: ws')
    (body : ∀ p e s m args below meth c s₁, BodyLoose p l y (headSpec ws rm) cc maxL ret e s m args below meth c s₁ → c.maxLocals = maxL → Pc args s →
      W p l e (headSpec ws rm).room s m args below meth c s.heap [] 0 0 (vx_MQ below Qc XC args s mc ms free) (entryFrame m args maxL)) : vx_Met l y ws rm Pc Qc XC mc ms free := by
  refine MetFree.of_bodyS (code := cc) (maxLocals := maxL) (ret := ret) hy ?_ ?_
  · intro args s m h hn
    obtain ⟨m9, meth, c, hn9, h1, h2, h3, h4, -, h5, h6, -⟩ := Cond.codeWith_spec (atoms_spec (ws := ws) h _ (by rw [hw]; exact List.mem_cons_self))
    cases hn.symm.trans hn9
    exact ⟨meth, c, h1, h2, h3, h4, h5, h6⟩
  · intro p e s m args below meth c s₁ B hml hP _
    have hh0 : s₁.heap = s.heap := by rw [B.state]; rfl
    obtain ⟨t, a1, o, b1, b2, b3⟩ := body p e s m args below meth c s₁ B hml hP s₁ hh0 (Stand.of_body B)
    exact ⟨t, o, a1, b1, b2, b3⟩
/-! ===== END ===== -/
end
section
/-! Names of the claim: classes, fields, methods -/
abbrev RP : String := "StrataClient$Packet"
abbrev RS : String := "StrataClient$Server"
abbrev RV : String := "StrataClient$Vote"
abbrev RC : String := "StrataClient"
abbrev RM : String := "StrataClientModel"
abbrev RL : String := "StrataClientLaw"
abbrev RJ : String := "java/lang/Math"
abbrev RI : String := "java/lang/Integer"
def TP : u_T := fun k => match k with
  | _ => ("StrataClient$Packet", "row", "[B", true)
def tyP : Nat → FieldType := fun k => match k with
  | _ => .array .byte
theorem nmP : ∀ a, a < 1 → ∀ b, b < 1 → a ≠ b → (TP a).2.1 ≠ (TP b).2.1 := by decide +kernel
theorem tyP_ok : ∀ k, k < 1 → parseFieldDescriptor (TP k).2.2.1 = some (tyP k) := by decide +kernel
def TS : u_T := fun k => match k with
  | 0 => ("StrataClient$Server", "denied", "Z", false)
  | 1 => ("StrataClient$Server", "reach", "I", false)
  | 2 => ("StrataClient$Server", "poll", "I", false)
  | 3 => ("StrataClient$Server", "expecting", "Z", false)
  | 4 => ("StrataClient$Server", "expected", "J", false)
  | 5 => ("StrataClient$Server", "count", "I", false)
  | 6 => ("StrataClient$Server", "stratum", "I", false)
  | 7 => ("StrataClient$Server", "rootDelay", "J", false)
  | 8 => ("StrataClient$Server", "rootDispersion", "J", false)
  | 9 => ("StrataClient$Server", "offsets", "[J", true)
  | 10 => ("StrataClient$Server", "delays", "[J", true)
  | _ => ("StrataClient$Server", "arrivals", "[J", true)
def tyS : Nat → FieldType := fun k => match k with
  | 0 => .boolean
  | 1 => .int
  | 2 => .int
  | 3 => .boolean
  | 4 => .long
  | 5 => .int
  | 6 => .int
  | 7 => .long
  | 8 => .long
  | 9 => .array .long
  | 10 => .array .long
  | _ => .array .long
theorem nmS : ∀ a, a < 12 → ∀ b, b < 12 → a ≠ b → (TS a).2.1 ≠ (TS b).2.1 := by decide +kernel
theorem tyS_ok : ∀ k, k < 12 → parseFieldDescriptor (TS k).2.2.1 = some (tyS k) := by decide +kernel
def TV : u_T := fun k => match k with
  | 0 => ("StrataClient$Vote", "candidates", "I", false)
  | 1 => ("StrataClient$Vote", "low", "J", false)
  | 2 => ("StrataClient$Vote", "high", "J", false)
  | 3 => ("StrataClient$Vote", "survivors", "I", false)
  | 4 => ("StrataClient$Vote", "offsets", "[J", true)
  | _ => ("StrataClient$Vote", "distances", "[J", true)
def tyV : Nat → FieldType := fun k => match k with
  | 0 => .int
  | 1 => .long
  | 2 => .long
  | 3 => .int
  | 4 => .array .long
  | _ => .array .long
theorem nmV : ∀ a, a < 6 → ∀ b, b < 6 → a ≠ b → (TV a).2.1 ≠ (TV b).2.1 := by decide +kernel
theorem tyV_ok : ∀ k, k < 6 → parseFieldDescriptor (TV k).2.2.1 = some (tyV k) := by decide +kernel
def TC : u_T := fun k => match k with
  | 0 => ("StrataClient", "packet", "LStrataClient$Packet;", true)
  | 1 => ("StrataClient", "servers", "[LStrataClient$Server;", true)
  | 2 => ("StrataClient", "vote", "LStrataClient$Vote;", true)
  | 3 => ("StrataClient", "local", "J", false)
  | 4 => ("StrataClient", "slew", "J", false)
  | _ => ("StrataClient", "wasSet", "Z", false)
def tyC : Nat → FieldType := fun k => match k with
  | 0 => .object "StrataClient$Packet"
  | 1 => .array (.object "StrataClient$Server")
  | 2 => .object "StrataClient$Vote"
  | 3 => .long
  | 4 => .long
  | _ => .boolean
theorem nmC : ∀ a, a < 6 → ∀ b, b < 6 → a ≠ b → (TC a).2.1 ≠ (TC b).2.1 := by decide +kernel
theorem tyC_ok : ∀ k, k < 6 → parseFieldDescriptor (TC k).2.2.1 = some (tyC k) := by decide +kernel
def TM : u_T := fun k => match k with
  | 0 => ("StrataClientModel", "thrown", "I", false)
  | 1 => ("StrataClientModel", "local", "J", false)
  | 2 => ("StrataClientModel", "slew", "J", false)
  | 3 => ("StrataClientModel", "set", "Z", false)
  | 4 => ("StrataClientModel", "packet", "[I", true)
  | 5 => ("StrataClientModel", "denied", "[Z", true)
  | 6 => ("StrataClientModel", "reaches", "[I", true)
  | 7 => ("StrataClientModel", "polls", "[I", true)
  | 8 => ("StrataClientModel", "asked", "[Z", true)
  | 9 => ("StrataClientModel", "expected", "[J", true)
  | 10 => ("StrataClientModel", "strata", "[I", true)
  | 11 => ("StrataClientModel", "rootDelays", "[J", true)
  | 12 => ("StrataClientModel", "rootDispersions", "[J", true)
  | 13 => ("StrataClientModel", "many", "[I", true)
  | 14 => ("StrataClientModel", "offsets", "[J", true)
  | 15 => ("StrataClientModel", "delays", "[J", true)
  | 16 => ("StrataClientModel", "came", "[J", true)
  | 17 => ("StrataClientModel", "inside", "[Z", true)
  | 18 => ("StrataClientModel", "low", "J", false)
  | _ => ("StrataClientModel", "high", "J", false)
def tyM : Nat → FieldType := fun k => match k with
  | 0 => .int
  | 1 => .long
  | 2 => .long
  | 3 => .boolean
  | 4 => .array .int
  | 5 => .array .boolean
  | 6 => .array .int
  | 7 => .array .int
  | 8 => .array .boolean
  | 9 => .array .long
  | 10 => .array .int
  | 11 => .array .long
  | 12 => .array .long
  | 13 => .array .int
  | 14 => .array .long
  | 15 => .array .long
  | 16 => .array .long
  | 17 => .array .boolean
  | 18 => .long
  | _ => .long
theorem nmM : ∀ a, a < 20 → ∀ b, b < 20 → a ≠ b → (TM a).2.1 ≠ (TM b).2.1 := by decide +kernel
theorem tyM_ok : ∀ k, k < 20 → parseFieldDescriptor (TM k).2.2.1 = some (tyM k) := by decide +kernel
abbrev vcl : List vw_C := [(RP, TP, 1), (RS, TS, 12), (RV, TV, 6), (RC, TC, 6), (RM, TM, 20)]
abbrev yC_init : MethodName := ⟨"StrataClient", "<init>", "()V"⟩
abbrev cC_init : ByteArray := prog_1_method_1_code
abbrev yP_init : MethodName := ⟨"StrataClient$Packet", "<init>", "()V"⟩
abbrev cP_init : ByteArray := prog_2_method_1_code
abbrev yS_init : MethodName := ⟨"StrataClient$Server", "<init>", "()V"⟩
abbrev cS_init : ByteArray := prog_3_method_1_code
abbrev yV_init : MethodName := ⟨"StrataClient$Vote", "<init>", "()V"⟩
abbrev cV_init : ByteArray := prog_4_method_1_code
abbrev yC_local : MethodName := ⟨"StrataClient", "local", "()J"⟩
abbrev cC_local : ByteArray := prog_1_method_3_code
abbrev yC_slew : MethodName := ⟨"StrataClient", "slew", "()J"⟩
abbrev cC_slew : ByteArray := prog_1_method_4_code
abbrev yC_candidates : MethodName := ⟨"StrataClient", "candidates", "()I"⟩
abbrev cC_candidates : ByteArray := prog_1_method_16_code
abbrev yV_hold : MethodName := ⟨"StrataClient$Vote", "hold", "([LStrataClient$Server;J)V"⟩
abbrev cV_hold : ByteArray := prog_4_method_3_code
abbrev yV_findCandidates : MethodName := ⟨"StrataClient$Vote", "findCandidates", "([LStrataClient$Server;J)V"⟩
abbrev cV_findCandidates : ByteArray := prog_4_method_8_code
abbrev yS_bestOffset : MethodName := ⟨"StrataClient$Server", "bestOffset", "(J)J"⟩
abbrev cS_bestOffset : ByteArray := prog_3_method_9_code
abbrev yS_bestAt : MethodName := ⟨"StrataClient$Server", "bestAt", "(J)I"⟩
abbrev cS_bestAt : ByteArray := prog_3_method_13_code
abbrev yS_distanceOf : MethodName := ⟨"StrataClient$Server", "distanceOf", "(IJ)J"⟩
abbrev cS_distanceOf : ByteArray := prog_3_method_14_code
abbrev yJ_floorDiv : MethodName := ⟨"java/lang/Math", "floorDiv", "(JJ)J"⟩
abbrev cJ_floorDiv : ByteArray := prog_12_method_49_code
abbrev yS_rootDistance : MethodName := ⟨"StrataClient$Server", "rootDistance", "(J)J"⟩
abbrev cS_rootDistance : ByteArray := prog_3_method_12_code
abbrev yS_farthestFrom : MethodName := ⟨"StrataClient$Server", "farthestFrom", "(J)J"⟩
abbrev cS_farthestFrom : ByteArray := prog_3_method_15_code
abbrev yJ_abs : MethodName := ⟨"java/lang/Math", "abs", "(J)J"⟩
abbrev cJ_abs : ByteArray := prog_12_method_61_code
abbrev yJ_max_f86c : MethodName := ⟨"java/lang/Math", "max", "(JJ)J"⟩
abbrev cJ_max_f86c : ByteArray := prog_12_method_66_code
abbrev yV_findBounds : MethodName := ⟨"StrataClient$Vote", "findBounds", "()V"⟩
abbrev cV_findBounds : ByteArray := prog_4_method_9_code
abbrev yV_has : MethodName := ⟨"StrataClient$Vote", "has", "(II)Z"⟩
abbrev cV_has : ByteArray := prog_4_method_2_code
abbrev yV_isInMost : MethodName := ⟨"StrataClient$Vote", "isInMost", "(J)Z"⟩
abbrev cV_isInMost : ByteArray := prog_4_method_10_code
abbrev yI_bitCount : MethodName := ⟨"java/lang/Integer", "bitCount", "(I)I"⟩
abbrev cI_bitCount : ByteArray := prog_11_method_49_code
abbrev yJ_min_f86c : MethodName := ⟨"java/lang/Math", "min", "(JJ)J"⟩
abbrev cJ_min_f86c : ByteArray := prog_12_method_70_code
abbrev yV_findSurvivors : MethodName := ⟨"StrataClient$Vote", "findSurvivors", "()V"⟩
abbrev cV_findSurvivors : ByteArray := prog_4_method_11_code
abbrev yV_findFarthest : MethodName := ⟨"StrataClient$Vote", "findFarthest", "()I"⟩
abbrev cV_findFarthest : ByteArray := prog_4_method_12_code
abbrev yV_spreadOf : MethodName := ⟨"StrataClient$Vote", "spreadOf", "(I)J"⟩
abbrev cV_spreadOf : ByteArray := prog_4_method_13_code
abbrev yC_survivors : MethodName := ⟨"StrataClient", "survivors", "()I"⟩
abbrev cC_survivors : ByteArray := prog_1_method_19_code
abbrev yL_run : MethodName := ⟨"StrataClientLaw", "run", "(LStrataClient;J)I"⟩
abbrev cL_run : ByteArray := method_3_code
abbrev yC_run : MethodName := ⟨"StrataClient", "run", "(J)V"⟩
abbrev cC_run : ByteArray := prog_1_method_2_code
abbrev yL_put : MethodName := ⟨"StrataClientLaw", "put", "(LStrataClient;IJI)I"⟩
abbrev cL_put : ByteArray := method_4_code
abbrev yC_put : MethodName := ⟨"StrataClient", "put", "(IJI)V"⟩
abbrev cC_put : ByteArray := prog_1_method_5_code
abbrev yP_write : MethodName := ⟨"StrataClient$Packet", "write", "(IJI)V"⟩
abbrev cP_write : ByteArray := prog_2_method_2_code
abbrev yL_echo : MethodName := ⟨"StrataClientLaw", "echo", "(LStrataClient;IJJ)I"⟩
abbrev cL_echo : ByteArray := method_5_code
abbrev yC_echo : MethodName := ⟨"StrataClient", "echo", "(IJJ)V"⟩
abbrev cC_echo : ByteArray := prog_1_method_6_code
abbrev yC_serverAt : MethodName := ⟨"StrataClient", "serverAt", "(I)LStrataClient$Server;"⟩
abbrev cC_serverAt : ByteArray := prog_1_method_22_code
abbrev yL_send : MethodName := ⟨"StrataClientLaw", "send", "(LStrataClient;I[J)I"⟩
abbrev cL_send : ByteArray := method_6_code
abbrev yC_send : MethodName := ⟨"StrataClient", "send", "(I)J"⟩
abbrev cC_send : ByteArray := prog_1_method_7_code
abbrev yS_expect : MethodName := ⟨"StrataClient$Server", "expect", "(J)V"⟩
abbrev cS_expect : ByteArray := prog_3_method_2_code
abbrev yL_receive : MethodName := ⟨"StrataClientLaw", "receive", "(LStrataClient;I[J)I"⟩
abbrev cL_receive : ByteArray := method_7_code
abbrev yC_receive : MethodName := ⟨"StrataClient", "receive", "(I)I"⟩
abbrev cC_receive : ByteArray := prog_1_method_8_code
abbrev yP_isAnswer : MethodName := ⟨"StrataClient$Packet", "isAnswer", "()Z"⟩
abbrev cP_isAnswer : ByteArray := prog_2_method_4_code
abbrev yP_read : MethodName := ⟨"StrataClient$Packet", "read", "(II)J"⟩
abbrev cP_read : ByteArray := prog_2_method_3_code
abbrev yP_stratum : MethodName := ⟨"StrataClient$Packet", "stratum", "()I"⟩
abbrev cP_stratum : ByteArray := prog_2_method_6_code
abbrev yS_obey : MethodName := ⟨"StrataClient$Server", "obey", "(J)V"⟩
abbrev cS_obey : ByteArray := prog_3_method_3_code
abbrev yS_pollLater : MethodName := ⟨"StrataClient$Server", "pollLater", "()V"⟩
abbrev cS_pollLater : ByteArray := prog_3_method_4_code
abbrev yJ_min_7cf5 : MethodName := ⟨"java/lang/Math", "min", "(II)I"⟩
abbrev cJ_min_7cf5 : ByteArray := prog_12_method_69_code
abbrev yP_isSynchronized : MethodName := ⟨"StrataClient$Packet", "isSynchronized", "()Z"⟩
abbrev cP_isSynchronized : ByteArray := prog_2_method_5_code
abbrev yC_takeTimes : MethodName := ⟨"StrataClient", "takeTimes", "(LStrataClient$Server;)I"⟩
abbrev cC_takeTimes : ByteArray := prog_1_method_24_code
abbrev yC_halfOfSum : MethodName := ⟨"StrataClient", "halfOfSum", "(JJ)J"⟩
abbrev cC_halfOfSum : ByteArray := prog_1_method_25_code
abbrev yP_rootDelay : MethodName := ⟨"StrataClient$Packet", "rootDelay", "()J"⟩
abbrev cP_rootDelay : ByteArray := prog_2_method_7_code
abbrev yP_rootDispersion : MethodName := ⟨"StrataClient$Packet", "rootDispersion", "()J"⟩
abbrev cP_rootDispersion : ByteArray := prog_2_method_8_code
abbrev yS_keepRoot : MethodName := ⟨"StrataClient$Server", "keepRoot", "(IJJ)V"⟩
abbrev cS_keepRoot : ByteArray := prog_3_method_6_code
abbrev yS_keepSample : MethodName := ⟨"StrataClient$Server", "keepSample", "(JJJ)V"⟩
abbrev cS_keepSample : ByteArray := prog_3_method_7_code
abbrev yL_reach : MethodName := ⟨"StrataClientLaw", "reach", "(LStrataClient;I[J)I"⟩
abbrev cL_reach : ByteArray := method_8_code
abbrev yC_reach : MethodName := ⟨"StrataClient", "reach", "(I)I"⟩
abbrev cC_reach : ByteArray := prog_1_method_9_code
abbrev yL_poll : MethodName := ⟨"StrataClientLaw", "poll", "(LStrataClient;I[J)I"⟩
abbrev cL_poll : ByteArray := method_9_code
abbrev yC_poll : MethodName := ⟨"StrataClient", "poll", "(I)I"⟩
abbrev cC_poll : ByteArray := prog_1_method_10_code
abbrev yL_samples : MethodName := ⟨"StrataClientLaw", "samples", "(LStrataClient;I[J)I"⟩
abbrev cL_samples : ByteArray := method_10_code
abbrev yC_samples : MethodName := ⟨"StrataClient", "samples", "(I)I"⟩
abbrev cC_samples : ByteArray := prog_1_method_11_code
abbrev yL_offset : MethodName := ⟨"StrataClientLaw", "offset", "(LStrataClient;I[J)I"⟩
abbrev cL_offset : ByteArray := method_11_code
abbrev yC_offset : MethodName := ⟨"StrataClient", "offset", "(I)J"⟩
abbrev cC_offset : ByteArray := prog_1_method_12_code
abbrev yC_sampledAt : MethodName := ⟨"StrataClient", "sampledAt", "(I)LStrataClient$Server;"⟩
abbrev cC_sampledAt : ByteArray := prog_1_method_23_code
abbrev yL_delay : MethodName := ⟨"StrataClientLaw", "delay", "(LStrataClient;I[J)I"⟩
abbrev cL_delay : ByteArray := method_12_code
abbrev yC_delay : MethodName := ⟨"StrataClient", "delay", "(I)J"⟩
abbrev cC_delay : ByteArray := prog_1_method_13_code
abbrev yS_bestDelay : MethodName := ⟨"StrataClient$Server", "bestDelay", "(J)J"⟩
abbrev cS_bestDelay : ByteArray := prog_3_method_10_code
abbrev yL_jitter : MethodName := ⟨"StrataClientLaw", "jitter", "(LStrataClient;I[J)I"⟩
abbrev cL_jitter : ByteArray := method_13_code
abbrev yC_jitter : MethodName := ⟨"StrataClient", "jitter", "(I)J"⟩
abbrev cC_jitter : ByteArray := prog_1_method_14_code
abbrev yS_jitterAt : MethodName := ⟨"StrataClient$Server", "jitterAt", "(J)J"⟩
abbrev cS_jitterAt : ByteArray := prog_3_method_11_code
abbrev yL_distance : MethodName := ⟨"StrataClientLaw", "distance", "(LStrataClient;I[J)I"⟩
abbrev cL_distance : ByteArray := method_14_code
abbrev yC_distance : MethodName := ⟨"StrataClient", "distance", "(I)J"⟩
abbrev cC_distance : ByteArray := prog_1_method_15_code
abbrev yL_low : MethodName := ⟨"StrataClientLaw", "low", "(LStrataClient;[J)I"⟩
abbrev cL_low : ByteArray := method_15_code
abbrev yC_low : MethodName := ⟨"StrataClient", "low", "()J"⟩
abbrev cC_low : ByteArray := prog_1_method_17_code
abbrev yV_hasMajority : MethodName := ⟨"StrataClient$Vote", "hasMajority", "()Z"⟩
abbrev cV_hasMajority : ByteArray := prog_4_method_4_code
abbrev yL_high : MethodName := ⟨"StrataClientLaw", "high", "(LStrataClient;[J)I"⟩
abbrev cL_high : ByteArray := method_16_code
abbrev yC_high : MethodName := ⟨"StrataClient", "high", "()J"⟩
abbrev cC_high : ByteArray := prog_1_method_18_code
abbrev yL_peer : MethodName := ⟨"StrataClientLaw", "peer", "(LStrataClient;[J)I"⟩
abbrev cL_peer : ByteArray := method_17_code
abbrev yC_peer : MethodName := ⟨"StrataClient", "peer", "()I"⟩
abbrev cC_peer : ByteArray := prog_1_method_20_code
abbrev yV_agrees : MethodName := ⟨"StrataClient$Vote", "agrees", "()Z"⟩
abbrev cV_agrees : ByteArray := prog_4_method_5_code
abbrev yV_choosePeer : MethodName := ⟨"StrataClient$Vote", "choosePeer", "([LStrataClient$Server;)I"⟩
abbrev cV_choosePeer : ByteArray := prog_4_method_6_code
abbrev yV_isBetter : MethodName := ⟨"StrataClient$Vote", "isBetter", "([LStrataClient$Server;II)Z"⟩
abbrev cV_isBetter : ByteArray := prog_4_method_14_code
abbrev yJ_max_7cf5 : MethodName := ⟨"java/lang/Math", "max", "(II)I"⟩
abbrev cJ_max_7cf5 : ByteArray := prog_12_method_65_code
abbrev yL_update : MethodName := ⟨"StrataClientLaw", "update", "(LStrataClient;[J)I"⟩
abbrev cL_update : ByteArray := method_18_code
abbrev yC_update : MethodName := ⟨"StrataClient", "update", "()I"⟩
abbrev cC_update : ByteArray := prog_1_method_21_code
abbrev yV_combinedOffset : MethodName := ⟨"StrataClient$Vote", "combinedOffset", "()J"⟩
abbrev cV_combinedOffset : ByteArray := prog_4_method_7_code
abbrev yC_stepBy : MethodName := ⟨"StrataClient", "stepBy", "(J)V"⟩
abbrev cC_stepBy : ByteArray := prog_1_method_26_code
abbrev yS_forget : MethodName := ⟨"StrataClient$Server", "forget", "()V"⟩
abbrev cS_forget : ByteArray := prog_3_method_8_code
abbrev yC_tunePolls : MethodName := ⟨"StrataClient", "tunePolls", "(J)V"⟩
abbrev cC_tunePolls : ByteArray := prog_1_method_27_code
abbrev yS_pollSooner : MethodName := ⟨"StrataClient$Server", "pollSooner", "()V"⟩
abbrev cS_pollSooner : ByteArray := prog_3_method_5_code
abbrev yM_init : MethodName := ⟨"StrataClientModel", "<init>", "()V"⟩
abbrev cM_init : ByteArray := prog_6_method_1_code
abbrev yM_thrown : MethodName := ⟨"StrataClientModel", "thrown", "()I"⟩
abbrev cM_thrown : ByteArray := prog_6_method_2_code
abbrev yM_run : MethodName := ⟨"StrataClientModel", "run", "(J)V"⟩
abbrev cM_run : ByteArray := prog_6_method_5_code
abbrev yM_local : MethodName := ⟨"StrataClientModel", "local", "()J"⟩
abbrev cM_local : ByteArray := prog_6_method_6_code
abbrev yM_slew : MethodName := ⟨"StrataClientModel", "slew", "()J"⟩
abbrev cM_slew : ByteArray := prog_6_method_7_code
abbrev yM_put : MethodName := ⟨"StrataClientModel", "put", "(IJI)V"⟩
abbrev cM_put : ByteArray := prog_6_method_10_code
abbrev yM_write : MethodName := ⟨"StrataClientModel", "write", "(IJI)V"⟩
abbrev cM_write : ByteArray := prog_6_method_8_code
abbrev yM_echo : MethodName := ⟨"StrataClientModel", "echo", "(IJJ)V"⟩
abbrev cM_echo : ByteArray := prog_6_method_11_code
abbrev yM_isServer : MethodName := ⟨"StrataClientModel", "isServer", "(I)Z"⟩
abbrev cM_isServer : ByteArray := prog_6_method_3_code
abbrev yM_send : MethodName := ⟨"StrataClientModel", "send", "(I)J"⟩
abbrev cM_send : ByteArray := prog_6_method_12_code
abbrev yM_receive : MethodName := ⟨"StrataClientModel", "receive", "(I)I"⟩
abbrev cM_receive : ByteArray := prog_6_method_15_code
abbrev yM_read : MethodName := ⟨"StrataClientModel", "read", "(II)J"⟩
abbrev cM_read : ByteArray := prog_6_method_9_code
abbrev yM_kiss : MethodName := ⟨"StrataClientModel", "kiss", "(I)I"⟩
abbrev cM_kiss : ByteArray := prog_6_method_14_code
abbrev yM_half : MethodName := ⟨"StrataClientModel", "half", "(JJ)J"⟩
abbrev cM_half : ByteArray := prog_6_method_13_code
abbrev yM_reach : MethodName := ⟨"StrataClientModel", "reach", "(I)I"⟩
abbrev cM_reach : ByteArray := prog_6_method_16_code
abbrev yM_poll : MethodName := ⟨"StrataClientModel", "poll", "(I)I"⟩
abbrev cM_poll : ByteArray := prog_6_method_17_code
abbrev yM_samples : MethodName := ⟨"StrataClientModel", "samples", "(I)I"⟩
abbrev cM_samples : ByteArray := prog_6_method_18_code
abbrev yM_offset : MethodName := ⟨"StrataClientModel", "offset", "(I)J"⟩
abbrev cM_offset : ByteArray := prog_6_method_25_code
abbrev yM_shows : MethodName := ⟨"StrataClientModel", "shows", "(I)Z"⟩
abbrev cM_shows : ByteArray := prog_6_method_24_code
abbrev yM_offsetOf : MethodName := ⟨"StrataClientModel", "offsetOf", "(I)J"⟩
abbrev cM_offsetOf : ByteArray := prog_6_method_23_code
abbrev yM_best : MethodName := ⟨"StrataClientModel", "best", "(I)I"⟩
abbrev cM_best : ByteArray := prog_6_method_20_code
abbrev yM_dispersion : MethodName := ⟨"StrataClientModel", "dispersion", "(I)J"⟩
abbrev cM_dispersion : ByteArray := prog_6_method_19_code
abbrev yM_delay : MethodName := ⟨"StrataClientModel", "delay", "(I)J"⟩
abbrev cM_delay : ByteArray := prog_6_method_26_code
abbrev yM_jitter : MethodName := ⟨"StrataClientModel", "jitter", "(I)J"⟩
abbrev cM_jitter : ByteArray := prog_6_method_27_code
abbrev yM_jitterOf : MethodName := ⟨"StrataClientModel", "jitterOf", "(I)J"⟩
abbrev cM_jitterOf : ByteArray := prog_6_method_21_code
abbrev yM_size : MethodName := ⟨"StrataClientModel", "size", "(J)J"⟩
abbrev cM_size : ByteArray := prog_6_method_4_code
abbrev yM_distance : MethodName := ⟨"StrataClientModel", "distance", "(I)J"⟩
abbrev cM_distance : ByteArray := prog_6_method_28_code
abbrev yM_distanceOf : MethodName := ⟨"StrataClientModel", "distanceOf", "(I)J"⟩
abbrev cM_distanceOf : ByteArray := prog_6_method_22_code
abbrev yM_candidates : MethodName := ⟨"StrataClientModel", "candidates", "()I"⟩
abbrev cM_candidates : ByteArray := prog_6_method_30_code
abbrev yM_isCandidate : MethodName := ⟨"StrataClientModel", "isCandidate", "(I)Z"⟩
abbrev cM_isCandidate : ByteArray := prog_6_method_29_code
abbrev yM_low : MethodName := ⟨"StrataClientModel", "low", "()J"⟩
abbrev cM_low : ByteArray := prog_6_method_33_code
abbrev yM_majority : MethodName := ⟨"StrataClientModel", "majority", "()Z"⟩
abbrev cM_majority : ByteArray := prog_6_method_32_code
abbrev yM_isCommon : MethodName := ⟨"StrataClientModel", "isCommon", "(J)Z"⟩
abbrev cM_isCommon : ByteArray := prog_6_method_31_code
abbrev yM_high : MethodName := ⟨"StrataClientModel", "high", "()J"⟩
abbrev cM_high : ByteArray := prog_6_method_34_code
abbrev yM_survivors : MethodName := ⟨"StrataClientModel", "survivors", "()I"⟩
abbrev cM_survivors : ByteArray := prog_6_method_37_code
abbrev yM_survive : MethodName := ⟨"StrataClientModel", "survive", "()I"⟩
abbrev cM_survive : ByteArray := prog_6_method_36_code
abbrev yM_spread : MethodName := ⟨"StrataClientModel", "spread", "(I)J"⟩
abbrev cM_spread : ByteArray := prog_6_method_35_code
abbrev yM_peer : MethodName := ⟨"StrataClientModel", "peer", "()I"⟩
abbrev cM_peer : ByteArray := prog_6_method_39_code
abbrev yM_peerOf : MethodName := ⟨"StrataClientModel", "peerOf", "()I"⟩
abbrev cM_peerOf : ByteArray := prog_6_method_38_code
abbrev yM_update : MethodName := ⟨"StrataClientModel", "update", "()I"⟩
abbrev cM_update : ByteArray := prog_6_method_43_code
abbrev yM_combined : MethodName := ⟨"StrataClientModel", "combined", "(I)J"⟩
abbrev cM_combined : ByteArray := prog_6_method_40_code
abbrev yM_step : MethodName := ⟨"StrataClientModel", "step", "(J)V"⟩
abbrev cM_step : ByteArray := prog_6_method_41_code
abbrev yM_slow : MethodName := ⟨"StrataClientModel", "slow", "(J)V"⟩
abbrev cM_slow : ByteArray := prog_6_method_42_code
end
section
theorem dC_init_0 : decode cC_init 0 = .ok (.aload_n 0, 1) := by decide +kernel
theorem dC_init_1 : decode cC_init 1 = .ok (.invokespecial 1, 3) := by decide +kernel
theorem dC_init_4 : decode cC_init 4 = .ok (.aload_n 0, 1) := by decide +kernel
theorem dC_init_5 : decode cC_init 5 = .ok (.new 7, 3) := by decide +kernel
theorem dC_init_8 : decode cC_init 8 = .ok (.dup, 1) := by decide +kernel
theorem dC_init_9 : decode cC_init 9 = .ok (.invokespecial 9, 3) := by decide +kernel
theorem dC_init_12 : decode cC_init 12 = .ok (.putfield 10, 3) := by decide +kernel
theorem dC_init_15 : decode cC_init 15 = .ok (.aload_n 0, 1) := by decide +kernel
theorem dC_init_16 : decode cC_init 16 = .ok (.iconst 5, 1) := by decide +kernel
theorem dC_init_17 : decode cC_init 17 = .ok (.anewarray 16, 3) := by decide +kernel
theorem dC_init_20 : decode cC_init 20 = .ok (.putfield 18, 3) := by decide +kernel
theorem dC_init_23 : decode cC_init 23 = .ok (.iconst 0, 1) := by decide +kernel
theorem dC_init_24 : decode cC_init 24 = .ok (.istore_n 1, 1) := by decide +kernel
theorem dC_init_25 : decode cC_init 25 = .ok (.iload_n 1, 1) := by decide +kernel
theorem dC_init_26 : decode cC_init 26 = .ok (.iconst 5, 1) := by decide +kernel
theorem dC_init_27 : decode cC_init 27 = .ok (.if_icmp .ge 22, 3) := by decide +kernel
theorem dC_init_30 : decode cC_init 30 = .ok (.aload_n 0, 1) := by decide +kernel
theorem dC_init_31 : decode cC_init 31 = .ok (.getfield 18, 3) := by decide +kernel
theorem dC_init_34 : decode cC_init 34 = .ok (.iload_n 1, 1) := by decide +kernel
theorem dC_init_35 : decode cC_init 35 = .ok (.new 16, 3) := by decide +kernel
theorem dC_init_38 : decode cC_init 38 = .ok (.dup, 1) := by decide +kernel
theorem dC_init_39 : decode cC_init 39 = .ok (.invokespecial 22, 3) := by decide +kernel
theorem dC_init_42 : decode cC_init 42 = .ok (.aastore, 1) := by decide +kernel
theorem dC_init_43 : decode cC_init 43 = .ok (.iinc 1 1, 3) := by decide +kernel
theorem dC_init_46 : decode cC_init 46 = .ok (.goto (-21), 3) := by decide +kernel
theorem dC_init_49 : decode cC_init 49 = .ok (.aload_n 0, 1) := by decide +kernel
theorem dC_init_50 : decode cC_init 50 = .ok (.new 23, 3) := by decide +kernel
theorem dC_init_53 : decode cC_init 53 = .ok (.dup, 1) := by decide +kernel
theorem dC_init_54 : decode cC_init 54 = .ok (.invokespecial 25, 3) := by decide +kernel
theorem dC_init_57 : decode cC_init 57 = .ok (.putfield 26, 3) := by decide +kernel
theorem dC_init_60 : decode cC_init 60 = .ok (.aload_n 0, 1) := by decide +kernel
theorem dC_init_61 : decode cC_init 61 = .ok (.lconst 0, 1) := by decide +kernel
theorem dC_init_62 : decode cC_init 62 = .ok (.putfield 30, 3) := by decide +kernel
theorem dC_init_65 : decode cC_init 65 = .ok (.aload_n 0, 1) := by decide +kernel
theorem dC_init_66 : decode cC_init 66 = .ok (.lconst 0, 1) := by decide +kernel
theorem dC_init_67 : decode cC_init 67 = .ok (.putfield 34, 3) := by decide +kernel
theorem dC_init_70 : decode cC_init 70 = .ok (.aload_n 0, 1) := by decide +kernel
theorem dC_init_71 : decode cC_init 71 = .ok (.iconst 0, 1) := by decide +kernel
theorem dC_init_72 : decode cC_init 72 = .ok (.putfield 37, 3) := by decide +kernel
theorem dC_init_75 : decode cC_init 75 = .ok (.return_, 1) := by decide +kernel
theorem dP_init_0 : decode cP_init 0 = .ok (.aload_n 0, 1) := by decide +kernel
theorem dP_init_1 : decode cP_init 1 = .ok (.invokespecial 1, 3) := by decide +kernel
theorem dP_init_4 : decode cP_init 4 = .ok (.aload_n 0, 1) := by decide +kernel
theorem dP_init_5 : decode cP_init 5 = .ok (.bipush 48, 2) := by decide +kernel
theorem dP_init_7 : decode cP_init 7 = .ok (.newarray .byte, 2) := by decide +kernel
theorem dP_init_9 : decode cP_init 9 = .ok (.putfield 9, 3) := by decide +kernel
theorem dP_init_12 : decode cP_init 12 = .ok (.return_, 1) := by decide +kernel
theorem dS_init_0 : decode cS_init 0 = .ok (.aload_n 0, 1) := by decide +kernel
theorem dS_init_1 : decode cS_init 1 = .ok (.invokespecial 1, 3) := by decide +kernel
theorem dS_init_4 : decode cS_init 4 = .ok (.aload_n 0, 1) := by decide +kernel
theorem dS_init_5 : decode cS_init 5 = .ok (.iconst 0, 1) := by decide +kernel
theorem dS_init_6 : decode cS_init 6 = .ok (.putfield 7, 3) := by decide +kernel
theorem dS_init_9 : decode cS_init 9 = .ok (.aload_n 0, 1) := by decide +kernel
theorem dS_init_10 : decode cS_init 10 = .ok (.iconst 0, 1) := by decide +kernel
theorem dS_init_11 : decode cS_init 11 = .ok (.putfield 13, 3) := by decide +kernel
theorem dS_init_14 : decode cS_init 14 = .ok (.aload_n 0, 1) := by decide +kernel
theorem dS_init_15 : decode cS_init 15 = .ok (.bipush 6, 2) := by decide +kernel
theorem dS_init_17 : decode cS_init 17 = .ok (.putfield 17, 3) := by decide +kernel
theorem dS_init_20 : decode cS_init 20 = .ok (.aload_n 0, 1) := by decide +kernel
theorem dS_init_21 : decode cS_init 21 = .ok (.iconst 0, 1) := by decide +kernel
theorem dS_init_22 : decode cS_init 22 = .ok (.putfield 20, 3) := by decide +kernel
theorem dS_init_25 : decode cS_init 25 = .ok (.aload_n 0, 1) := by decide +kernel
theorem dS_init_26 : decode cS_init 26 = .ok (.lconst 0, 1) := by decide +kernel
theorem dS_init_27 : decode cS_init 27 = .ok (.putfield 23, 3) := by decide +kernel
theorem dS_init_30 : decode cS_init 30 = .ok (.aload_n 0, 1) := by decide +kernel
theorem dS_init_31 : decode cS_init 31 = .ok (.iconst 0, 1) := by decide +kernel
theorem dS_init_32 : decode cS_init 32 = .ok (.putfield 27, 3) := by decide +kernel
theorem dS_init_35 : decode cS_init 35 = .ok (.aload_n 0, 1) := by decide +kernel
theorem dS_init_36 : decode cS_init 36 = .ok (.iconst 0, 1) := by decide +kernel
theorem dS_init_37 : decode cS_init 37 = .ok (.putfield 30, 3) := by decide +kernel
theorem dS_init_40 : decode cS_init 40 = .ok (.aload_n 0, 1) := by decide +kernel
theorem dS_init_41 : decode cS_init 41 = .ok (.lconst 0, 1) := by decide +kernel
theorem dS_init_42 : decode cS_init 42 = .ok (.putfield 33, 3) := by decide +kernel
theorem dS_init_45 : decode cS_init 45 = .ok (.aload_n 0, 1) := by decide +kernel
theorem dS_init_46 : decode cS_init 46 = .ok (.lconst 0, 1) := by decide +kernel
theorem dS_init_47 : decode cS_init 47 = .ok (.putfield 36, 3) := by decide +kernel
theorem dS_init_50 : decode cS_init 50 = .ok (.aload_n 0, 1) := by decide +kernel
theorem dS_init_51 : decode cS_init 51 = .ok (.bipush 8, 2) := by decide +kernel
theorem dS_init_53 : decode cS_init 53 = .ok (.newarray .long, 2) := by decide +kernel
theorem dS_init_55 : decode cS_init 55 = .ok (.putfield 39, 3) := by decide +kernel
theorem dS_init_58 : decode cS_init 58 = .ok (.aload_n 0, 1) := by decide +kernel
theorem dS_init_59 : decode cS_init 59 = .ok (.bipush 8, 2) := by decide +kernel
theorem dS_init_61 : decode cS_init 61 = .ok (.newarray .long, 2) := by decide +kernel
theorem dS_init_63 : decode cS_init 63 = .ok (.putfield 43, 3) := by decide +kernel
theorem dS_init_66 : decode cS_init 66 = .ok (.aload_n 0, 1) := by decide +kernel
theorem dS_init_67 : decode cS_init 67 = .ok (.bipush 8, 2) := by decide +kernel
theorem dS_init_69 : decode cS_init 69 = .ok (.newarray .long, 2) := by decide +kernel
theorem dS_init_71 : decode cS_init 71 = .ok (.putfield 46, 3) := by decide +kernel
theorem dS_init_74 : decode cS_init 74 = .ok (.return_, 1) := by decide +kernel
theorem dV_init_0 : decode cV_init 0 = .ok (.aload_n 0, 1) := by decide +kernel
theorem dV_init_1 : decode cV_init 1 = .ok (.invokespecial 3, 3) := by decide +kernel
theorem dV_init_4 : decode cV_init 4 = .ok (.aload_n 0, 1) := by decide +kernel
theorem dV_init_5 : decode cV_init 5 = .ok (.iconst 0, 1) := by decide +kernel
theorem dV_init_6 : decode cV_init 6 = .ok (.putfield 9, 3) := by decide +kernel
theorem dV_init_9 : decode cV_init 9 = .ok (.aload_n 0, 1) := by decide +kernel
theorem dV_init_10 : decode cV_init 10 = .ok (.ldc2_w 15, 3) := by decide +kernel
theorem dV_init_13 : decode cV_init 13 = .ok (.putfield 17, 3) := by decide +kernel
theorem dV_init_16 : decode cV_init 16 = .ok (.aload_n 0, 1) := by decide +kernel
theorem dV_init_17 : decode cV_init 17 = .ok (.ldc2_w 21, 3) := by decide +kernel
theorem dV_init_20 : decode cV_init 20 = .ok (.putfield 23, 3) := by decide +kernel
theorem dV_init_23 : decode cV_init 23 = .ok (.aload_n 0, 1) := by decide +kernel
theorem dV_init_24 : decode cV_init 24 = .ok (.iconst 0, 1) := by decide +kernel
theorem dV_init_25 : decode cV_init 25 = .ok (.putfield 26, 3) := by decide +kernel
theorem dV_init_28 : decode cV_init 28 = .ok (.aload_n 0, 1) := by decide +kernel
theorem dV_init_29 : decode cV_init 29 = .ok (.iconst 5, 1) := by decide +kernel
theorem dV_init_30 : decode cV_init 30 = .ok (.newarray .long, 2) := by decide +kernel
theorem dV_init_32 : decode cV_init 32 = .ok (.putfield 29, 3) := by decide +kernel
theorem dV_init_35 : decode cV_init 35 = .ok (.aload_n 0, 1) := by decide +kernel
theorem dV_init_36 : decode cV_init 36 = .ok (.iconst 5, 1) := by decide +kernel
theorem dV_init_37 : decode cV_init 37 = .ok (.newarray .long, 2) := by decide +kernel
theorem dV_init_39 : decode cV_init 39 = .ok (.putfield 33, 3) := by decide +kernel
theorem dV_init_42 : decode cV_init 42 = .ok (.return_, 1) := by decide +kernel
theorem dC_local_0 : decode cC_local 0 = .ok (.aload_n 0, 1) := by decide +kernel
theorem dC_local_1 : decode cC_local 1 = .ok (.getfield 30, 3) := by decide +kernel
theorem dC_local_4 : decode cC_local 4 = .ok (.lreturn, 1) := by decide +kernel
theorem dC_slew_0 : decode cC_slew 0 = .ok (.aload_n 0, 1) := by decide +kernel
theorem dC_slew_1 : decode cC_slew 1 = .ok (.getfield 34, 3) := by decide +kernel
theorem dC_slew_4 : decode cC_slew 4 = .ok (.lreturn, 1) := by decide +kernel
theorem dC_candidates_0 : decode cC_candidates 0 = .ok (.aload_n 0, 1) := by decide +kernel
theorem dC_candidates_1 : decode cC_candidates 1 = .ok (.getfield 26, 3) := by decide +kernel
theorem dC_candidates_4 : decode cC_candidates 4 = .ok (.aload_n 0, 1) := by decide +kernel
theorem dC_candidates_5 : decode cC_candidates 5 = .ok (.getfield 18, 3) := by decide +kernel
theorem dC_candidates_8 : decode cC_candidates 8 = .ok (.aload_n 0, 1) := by decide +kernel
theorem dC_candidates_9 : decode cC_candidates 9 = .ok (.getfield 30, 3) := by decide +kernel
theorem dC_candidates_12 : decode cC_candidates 12 = .ok (.invokevirtual 134, 3) := by decide +kernel
theorem dC_candidates_15 : decode cC_candidates 15 = .ok (.aload_n 0, 1) := by decide +kernel
theorem dC_candidates_16 : decode cC_candidates 16 = .ok (.getfield 26, 3) := by decide +kernel
theorem dC_candidates_19 : decode cC_candidates 19 = .ok (.getfield 138, 3) := by decide +kernel
theorem dC_candidates_22 : decode cC_candidates 22 = .ok (.ireturn, 1) := by decide +kernel
theorem dV_hold_0 : decode cV_hold 0 = .ok (.aload_n 0, 1) := by decide +kernel
theorem dV_hold_1 : decode cV_hold 1 = .ok (.aload_n 1, 1) := by decide +kernel
theorem dV_hold_2 : decode cV_hold 2 = .ok (.lload_n 2, 1) := by decide +kernel
theorem dV_hold_3 : decode cV_hold 3 = .ok (.invokevirtual 36, 3) := by decide +kernel
theorem dV_hold_6 : decode cV_hold 6 = .ok (.aload_n 0, 1) := by decide +kernel
theorem dV_hold_7 : decode cV_hold 7 = .ok (.invokevirtual 40, 3) := by decide +kernel
theorem dV_hold_10 : decode cV_hold 10 = .ok (.aload_n 0, 1) := by decide +kernel
theorem dV_hold_11 : decode cV_hold 11 = .ok (.invokevirtual 43, 3) := by decide +kernel
theorem dV_hold_14 : decode cV_hold 14 = .ok (.return_, 1) := by decide +kernel
theorem dV_findCandidates_0 : decode cV_findCandidates 0 = .ok (.aload_n 0, 1) := by decide +kernel
theorem dV_findCandidates_1 : decode cV_findCandidates 1 = .ok (.iconst 0, 1) := by decide +kernel
theorem dV_findCandidates_2 : decode cV_findCandidates 2 = .ok (.putfield 9, 3) := by decide +kernel
theorem dV_findCandidates_5 : decode cV_findCandidates 5 = .ok (.iconst 0, 1) := by decide +kernel
theorem dV_findCandidates_6 : decode cV_findCandidates 6 = .ok (.istore 4, 2) := by decide +kernel
theorem dV_findCandidates_8 : decode cV_findCandidates 8 = .ok (.iload 4, 2) := by decide +kernel
theorem dV_findCandidates_10 : decode cV_findCandidates 10 = .ok (.iconst 5, 1) := by decide +kernel
theorem dV_findCandidates_11 : decode cV_findCandidates 11 = .ok (.if_icmp .ge 92, 3) := by decide +kernel
theorem dV_findCandidates_14 : decode cV_findCandidates 14 = .ok (.aload_n 1, 1) := by decide +kernel
theorem dV_findCandidates_15 : decode cV_findCandidates 15 = .ok (.iload 4, 2) := by decide +kernel
theorem dV_findCandidates_17 : decode cV_findCandidates 17 = .ok (.aaload, 1) := by decide +kernel
theorem dV_findCandidates_18 : decode cV_findCandidates 18 = .ok (.astore 5, 2) := by decide +kernel
theorem dV_findCandidates_20 : decode cV_findCandidates 20 = .ok (.aload 5, 2) := by decide +kernel
theorem dV_findCandidates_22 : decode cV_findCandidates 22 = .ok (.getfield 74, 3) := by decide +kernel
theorem dV_findCandidates_25 : decode cV_findCandidates 25 = .ok (.ifCond .ne 72, 3) := by decide +kernel
theorem dV_findCandidates_28 : decode cV_findCandidates 28 = .ok (.aload 5, 2) := by decide +kernel
theorem dV_findCandidates_30 : decode cV_findCandidates 30 = .ok (.getfield 80, 3) := by decide +kernel
theorem dV_findCandidates_33 : decode cV_findCandidates 33 = .ok (.ifCond .eq 64, 3) := by decide +kernel
theorem dV_findCandidates_36 : decode cV_findCandidates 36 = .ok (.aload 5, 2) := by decide +kernel
theorem dV_findCandidates_38 : decode cV_findCandidates 38 = .ok (.getfield 83, 3) := by decide +kernel
theorem dV_findCandidates_41 : decode cV_findCandidates 41 = .ok (.ifCond .eq 56, 3) := by decide +kernel
theorem dV_findCandidates_44 : decode cV_findCandidates 44 = .ok (.aload_n 0, 1) := by decide +kernel
theorem dV_findCandidates_45 : decode cV_findCandidates 45 = .ok (.getfield 29, 3) := by decide +kernel
theorem dV_findCandidates_48 : decode cV_findCandidates 48 = .ok (.iload 4, 2) := by decide +kernel
theorem dV_findCandidates_50 : decode cV_findCandidates 50 = .ok (.aload 5, 2) := by decide +kernel
theorem dV_findCandidates_52 : decode cV_findCandidates 52 = .ok (.lload_n 2, 1) := by decide +kernel
theorem dV_findCandidates_53 : decode cV_findCandidates 53 = .ok (.invokevirtual 86, 3) := by decide +kernel
theorem dV_findCandidates_56 : decode cV_findCandidates 56 = .ok (.lastore, 1) := by decide +kernel
theorem dV_findCandidates_57 : decode cV_findCandidates 57 = .ok (.aload_n 0, 1) := by decide +kernel
theorem dV_findCandidates_58 : decode cV_findCandidates 58 = .ok (.getfield 33, 3) := by decide +kernel
theorem dV_findCandidates_61 : decode cV_findCandidates 61 = .ok (.iload 4, 2) := by decide +kernel
theorem dV_findCandidates_63 : decode cV_findCandidates 63 = .ok (.aload 5, 2) := by decide +kernel
theorem dV_findCandidates_65 : decode cV_findCandidates 65 = .ok (.lload_n 2, 1) := by decide +kernel
theorem dV_findCandidates_66 : decode cV_findCandidates 66 = .ok (.invokevirtual 90, 3) := by decide +kernel
theorem dV_findCandidates_69 : decode cV_findCandidates 69 = .ok (.lastore, 1) := by decide +kernel
theorem dV_findCandidates_70 : decode cV_findCandidates 70 = .ok (.aload_n 0, 1) := by decide +kernel
theorem dV_findCandidates_71 : decode cV_findCandidates 71 = .ok (.getfield 33, 3) := by decide +kernel
theorem dV_findCandidates_74 : decode cV_findCandidates 74 = .ok (.iload 4, 2) := by decide +kernel
theorem dV_findCandidates_76 : decode cV_findCandidates 76 = .ok (.laload, 1) := by decide +kernel
theorem dV_findCandidates_77 : decode cV_findCandidates 77 = .ok (.ldc2_w 93, 3) := by decide +kernel
theorem dV_findCandidates_80 : decode cV_findCandidates 80 = .ok (.lcmp, 1) := by decide +kernel
theorem dV_findCandidates_81 : decode cV_findCandidates 81 = .ok (.ifCond .ge 16, 3) := by decide +kernel
theorem dV_findCandidates_84 : decode cV_findCandidates 84 = .ok (.aload_n 0, 1) := by decide +kernel
theorem dV_findCandidates_85 : decode cV_findCandidates 85 = .ok (.dup, 1) := by decide +kernel
theorem dV_findCandidates_86 : decode cV_findCandidates 86 = .ok (.getfield 9, 3) := by decide +kernel
theorem dV_findCandidates_89 : decode cV_findCandidates 89 = .ok (.iconst 1, 1) := by decide +kernel
theorem dV_findCandidates_90 : decode cV_findCandidates 90 = .ok (.iload 4, 2) := by decide +kernel
theorem dV_findCandidates_92 : decode cV_findCandidates 92 = .ok (.ishl, 1) := by decide +kernel
theorem dV_findCandidates_93 : decode cV_findCandidates 93 = .ok (.ior, 1) := by decide +kernel
theorem dV_findCandidates_94 : decode cV_findCandidates 94 = .ok (.putfield 9, 3) := by decide +kernel
theorem dV_findCandidates_97 : decode cV_findCandidates 97 = .ok (.iinc 4 1, 3) := by decide +kernel
theorem dV_findCandidates_100 : decode cV_findCandidates 100 = .ok (.goto (-92), 3) := by decide +kernel
theorem dV_findCandidates_103 : decode cV_findCandidates 103 = .ok (.return_, 1) := by decide +kernel
theorem dS_bestOffset_0 : decode cS_bestOffset 0 = .ok (.aload_n 0, 1) := by decide +kernel
theorem dS_bestOffset_1 : decode cS_bestOffset 1 = .ok (.getfield 39, 3) := by decide +kernel
theorem dS_bestOffset_4 : decode cS_bestOffset 4 = .ok (.aload_n 0, 1) := by decide +kernel
theorem dS_bestOffset_5 : decode cS_bestOffset 5 = .ok (.lload_n 1, 1) := by decide +kernel
theorem dS_bestOffset_6 : decode cS_bestOffset 6 = .ok (.invokevirtual 67, 3) := by decide +kernel
theorem dS_bestOffset_9 : decode cS_bestOffset 9 = .ok (.laload, 1) := by decide +kernel
theorem dS_bestOffset_10 : decode cS_bestOffset 10 = .ok (.lreturn, 1) := by decide +kernel
theorem dS_bestAt_0 : decode cS_bestAt 0 = .ok (.iconst 0, 1) := by decide +kernel
theorem dS_bestAt_1 : decode cS_bestAt 1 = .ok (.istore_n 3, 1) := by decide +kernel
theorem dS_bestAt_2 : decode cS_bestAt 2 = .ok (.iconst 1, 1) := by decide +kernel
theorem dS_bestAt_3 : decode cS_bestAt 3 = .ok (.istore 4, 2) := by decide +kernel
theorem dS_bestAt_5 : decode cS_bestAt 5 = .ok (.iload 4, 2) := by decide +kernel
theorem dS_bestAt_7 : decode cS_bestAt 7 = .ok (.aload_n 0, 1) := by decide +kernel
theorem dS_bestAt_8 : decode cS_bestAt 8 = .ok (.getfield 27, 3) := by decide +kernel
theorem dS_bestAt_11 : decode cS_bestAt 11 = .ok (.if_icmp .ge 29, 3) := by decide +kernel
theorem dS_bestAt_14 : decode cS_bestAt 14 = .ok (.aload_n 0, 1) := by decide +kernel
theorem dS_bestAt_15 : decode cS_bestAt 15 = .ok (.iload 4, 2) := by decide +kernel
theorem dS_bestAt_17 : decode cS_bestAt 17 = .ok (.lload_n 1, 1) := by decide +kernel
theorem dS_bestAt_18 : decode cS_bestAt 18 = .ok (.invokevirtual 77, 3) := by decide +kernel
theorem dS_bestAt_21 : decode cS_bestAt 21 = .ok (.aload_n 0, 1) := by decide +kernel
theorem dS_bestAt_22 : decode cS_bestAt 22 = .ok (.iload_n 3, 1) := by decide +kernel
theorem dS_bestAt_23 : decode cS_bestAt 23 = .ok (.lload_n 1, 1) := by decide +kernel
theorem dS_bestAt_24 : decode cS_bestAt 24 = .ok (.invokevirtual 77, 3) := by decide +kernel
theorem dS_bestAt_27 : decode cS_bestAt 27 = .ok (.lcmp, 1) := by decide +kernel
theorem dS_bestAt_28 : decode cS_bestAt 28 = .ok (.ifCond .ge 6, 3) := by decide +kernel
theorem dS_bestAt_31 : decode cS_bestAt 31 = .ok (.iload 4, 2) := by decide +kernel
theorem dS_bestAt_33 : decode cS_bestAt 33 = .ok (.istore_n 3, 1) := by decide +kernel
theorem dS_bestAt_34 : decode cS_bestAt 34 = .ok (.iinc 4 1, 3) := by decide +kernel
theorem dS_bestAt_37 : decode cS_bestAt 37 = .ok (.goto (-32), 3) := by decide +kernel
theorem dS_bestAt_40 : decode cS_bestAt 40 = .ok (.iload_n 3, 1) := by decide +kernel
theorem dS_bestAt_41 : decode cS_bestAt 41 = .ok (.ireturn, 1) := by decide +kernel
theorem dS_distanceOf_0 : decode cS_distanceOf 0 = .ok (.lload_n 2, 1) := by decide +kernel
theorem dS_distanceOf_1 : decode cS_distanceOf 1 = .ok (.aload_n 0, 1) := by decide +kernel
theorem dS_distanceOf_2 : decode cS_distanceOf 2 = .ok (.getfield 46, 3) := by decide +kernel
theorem dS_distanceOf_5 : decode cS_distanceOf 5 = .ok (.iload_n 1, 1) := by decide +kernel
theorem dS_distanceOf_6 : decode cS_distanceOf 6 = .ok (.laload, 1) := by decide +kernel
theorem dS_distanceOf_7 : decode cS_distanceOf 7 = .ok (.lsub, 1) := by decide +kernel
theorem dS_distanceOf_8 : decode cS_distanceOf 8 = .ok (.lstore 4, 2) := by decide +kernel
theorem dS_distanceOf_10 : decode cS_distanceOf 10 = .ok (.aload_n 0, 1) := by decide +kernel
theorem dS_distanceOf_11 : decode cS_distanceOf 11 = .ok (.getfield 43, 3) := by decide +kernel
theorem dS_distanceOf_14 : decode cS_distanceOf 14 = .ok (.iload_n 1, 1) := by decide +kernel
theorem dS_distanceOf_15 : decode cS_distanceOf 15 = .ok (.laload, 1) := by decide +kernel
theorem dS_distanceOf_16 : decode cS_distanceOf 16 = .ok (.ldc2_w 75, 3) := by decide +kernel
theorem dS_distanceOf_19 : decode cS_distanceOf 19 = .ok (.ldiv, 1) := by decide +kernel
theorem dS_distanceOf_20 : decode cS_distanceOf 20 = .ok (.ldc2_w 81, 3) := by decide +kernel
theorem dS_distanceOf_23 : decode cS_distanceOf 23 = .ok (.ladd, 1) := by decide +kernel
theorem dS_distanceOf_24 : decode cS_distanceOf 24 = .ok (.lload 4, 2) := by decide +kernel
theorem dS_distanceOf_26 : decode cS_distanceOf 26 = .ok (.ldc2_w 81, 3) := by decide +kernel
theorem dS_distanceOf_29 : decode cS_distanceOf 29 = .ok (.invokestatic 83, 3) := by decide +kernel
theorem dS_distanceOf_32 : decode cS_distanceOf 32 = .ok (.ladd, 1) := by decide +kernel
theorem dS_distanceOf_33 : decode cS_distanceOf 33 = .ok (.lreturn, 1) := by decide +kernel
theorem dJ_floorDiv_0 : decode cJ_floorDiv 0 = .ok (.lload_n 0, 1) := by decide +kernel
theorem dJ_floorDiv_1 : decode cJ_floorDiv 1 = .ok (.lload_n 2, 1) := by decide +kernel
theorem dJ_floorDiv_2 : decode cJ_floorDiv 2 = .ok (.ldiv, 1) := by decide +kernel
theorem dJ_floorDiv_3 : decode cJ_floorDiv 3 = .ok (.lstore 4, 2) := by decide +kernel
theorem dJ_floorDiv_5 : decode cJ_floorDiv 5 = .ok (.lload_n 0, 1) := by decide +kernel
theorem dJ_floorDiv_6 : decode cJ_floorDiv 6 = .ok (.lload_n 2, 1) := by decide +kernel
theorem dJ_floorDiv_7 : decode cJ_floorDiv 7 = .ok (.lxor, 1) := by decide +kernel
theorem dJ_floorDiv_8 : decode cJ_floorDiv 8 = .ok (.lconst 0, 1) := by decide +kernel
theorem dJ_floorDiv_9 : decode cJ_floorDiv 9 = .ok (.lcmp, 1) := by decide +kernel
theorem dJ_floorDiv_10 : decode cJ_floorDiv 10 = .ok (.ifCond .ge 17, 3) := by decide +kernel
theorem dJ_floorDiv_13 : decode cJ_floorDiv 13 = .ok (.lload 4, 2) := by decide +kernel
theorem dJ_floorDiv_15 : decode cJ_floorDiv 15 = .ok (.lload_n 2, 1) := by decide +kernel
theorem dJ_floorDiv_16 : decode cJ_floorDiv 16 = .ok (.lmul, 1) := by decide +kernel
theorem dJ_floorDiv_17 : decode cJ_floorDiv 17 = .ok (.lload_n 0, 1) := by decide +kernel
theorem dJ_floorDiv_18 : decode cJ_floorDiv 18 = .ok (.lcmp, 1) := by decide +kernel
theorem dJ_floorDiv_19 : decode cJ_floorDiv 19 = .ok (.ifCond .eq 8, 3) := by decide +kernel
theorem dJ_floorDiv_22 : decode cJ_floorDiv 22 = .ok (.lload 4, 2) := by decide +kernel
theorem dJ_floorDiv_24 : decode cJ_floorDiv 24 = .ok (.lconst 1, 1) := by decide +kernel
theorem dJ_floorDiv_25 : decode cJ_floorDiv 25 = .ok (.lsub, 1) := by decide +kernel
theorem dJ_floorDiv_26 : decode cJ_floorDiv 26 = .ok (.lreturn, 1) := by decide +kernel
theorem dJ_floorDiv_27 : decode cJ_floorDiv 27 = .ok (.lload 4, 2) := by decide +kernel
theorem dJ_floorDiv_29 : decode cJ_floorDiv 29 = .ok (.lreturn, 1) := by decide +kernel
theorem dS_rootDistance_0 : decode cS_rootDistance 0 = .ok (.aload_n 0, 1) := by decide +kernel
theorem dS_rootDistance_1 : decode cS_rootDistance 1 = .ok (.lload_n 1, 1) := by decide +kernel
theorem dS_rootDistance_2 : decode cS_rootDistance 2 = .ok (.invokevirtual 67, 3) := by decide +kernel
theorem dS_rootDistance_5 : decode cS_rootDistance 5 = .ok (.istore_n 3, 1) := by decide +kernel
theorem dS_rootDistance_6 : decode cS_rootDistance 6 = .ok (.aload_n 0, 1) := by decide +kernel
theorem dS_rootDistance_7 : decode cS_rootDistance 7 = .ok (.getfield 33, 3) := by decide +kernel
theorem dS_rootDistance_10 : decode cS_rootDistance 10 = .ok (.ldc2_w 75, 3) := by decide +kernel
theorem dS_rootDistance_13 : decode cS_rootDistance 13 = .ok (.ldiv, 1) := by decide +kernel
theorem dS_rootDistance_14 : decode cS_rootDistance 14 = .ok (.aload_n 0, 1) := by decide +kernel
theorem dS_rootDistance_15 : decode cS_rootDistance 15 = .ok (.iload_n 3, 1) := by decide +kernel
theorem dS_rootDistance_16 : decode cS_rootDistance 16 = .ok (.lload_n 1, 1) := by decide +kernel
theorem dS_rootDistance_17 : decode cS_rootDistance 17 = .ok (.invokevirtual 77, 3) := by decide +kernel
theorem dS_rootDistance_20 : decode cS_rootDistance 20 = .ok (.ladd, 1) := by decide +kernel
theorem dS_rootDistance_21 : decode cS_rootDistance 21 = .ok (.aload_n 0, 1) := by decide +kernel
theorem dS_rootDistance_22 : decode cS_rootDistance 22 = .ok (.getfield 36, 3) := by decide +kernel
theorem dS_rootDistance_25 : decode cS_rootDistance 25 = .ok (.ladd, 1) := by decide +kernel
theorem dS_rootDistance_26 : decode cS_rootDistance 26 = .ok (.aload_n 0, 1) := by decide +kernel
theorem dS_rootDistance_27 : decode cS_rootDistance 27 = .ok (.aload_n 0, 1) := by decide +kernel
theorem dS_rootDistance_28 : decode cS_rootDistance 28 = .ok (.getfield 39, 3) := by decide +kernel
theorem dS_rootDistance_31 : decode cS_rootDistance 31 = .ok (.iload_n 3, 1) := by decide +kernel
theorem dS_rootDistance_32 : decode cS_rootDistance 32 = .ok (.laload, 1) := by decide +kernel
theorem dS_rootDistance_33 : decode cS_rootDistance 33 = .ok (.invokevirtual 71, 3) := by decide +kernel
theorem dS_rootDistance_36 : decode cS_rootDistance 36 = .ok (.ladd, 1) := by decide +kernel
theorem dS_rootDistance_37 : decode cS_rootDistance 37 = .ok (.lreturn, 1) := by decide +kernel
theorem dS_farthestFrom_0 : decode cS_farthestFrom 0 = .ok (.lconst 0, 1) := by decide +kernel
theorem dS_farthestFrom_1 : decode cS_farthestFrom 1 = .ok (.lstore_n 3, 1) := by decide +kernel
theorem dS_farthestFrom_2 : decode cS_farthestFrom 2 = .ok (.iconst 0, 1) := by decide +kernel
theorem dS_farthestFrom_3 : decode cS_farthestFrom 3 = .ok (.istore 5, 2) := by decide +kernel
theorem dS_farthestFrom_5 : decode cS_farthestFrom 5 = .ok (.iload 5, 2) := by decide +kernel
theorem dS_farthestFrom_7 : decode cS_farthestFrom 7 = .ok (.aload_n 0, 1) := by decide +kernel
theorem dS_farthestFrom_8 : decode cS_farthestFrom 8 = .ok (.getfield 27, 3) := by decide +kernel
theorem dS_farthestFrom_11 : decode cS_farthestFrom 11 = .ok (.if_icmp .ge 26, 3) := by decide +kernel
theorem dS_farthestFrom_14 : decode cS_farthestFrom 14 = .ok (.lload_n 3, 1) := by decide +kernel
theorem dS_farthestFrom_15 : decode cS_farthestFrom 15 = .ok (.aload_n 0, 1) := by decide +kernel
theorem dS_farthestFrom_16 : decode cS_farthestFrom 16 = .ok (.getfield 39, 3) := by decide +kernel
theorem dS_farthestFrom_19 : decode cS_farthestFrom 19 = .ok (.iload 5, 2) := by decide +kernel
theorem dS_farthestFrom_21 : decode cS_farthestFrom 21 = .ok (.laload, 1) := by decide +kernel
theorem dS_farthestFrom_22 : decode cS_farthestFrom 22 = .ok (.lload_n 1, 1) := by decide +kernel
theorem dS_farthestFrom_23 : decode cS_farthestFrom 23 = .ok (.lsub, 1) := by decide +kernel
theorem dS_farthestFrom_24 : decode cS_farthestFrom 24 = .ok (.invokestatic 87, 3) := by decide +kernel
theorem dS_farthestFrom_27 : decode cS_farthestFrom 27 = .ok (.invokestatic 90, 3) := by decide +kernel
theorem dS_farthestFrom_30 : decode cS_farthestFrom 30 = .ok (.lstore_n 3, 1) := by decide +kernel
theorem dS_farthestFrom_31 : decode cS_farthestFrom 31 = .ok (.iinc 5 1, 3) := by decide +kernel
theorem dS_farthestFrom_34 : decode cS_farthestFrom 34 = .ok (.goto (-29), 3) := by decide +kernel
theorem dS_farthestFrom_37 : decode cS_farthestFrom 37 = .ok (.lload_n 3, 1) := by decide +kernel
theorem dS_farthestFrom_38 : decode cS_farthestFrom 38 = .ok (.lreturn, 1) := by decide +kernel
theorem dJ_abs_0 : decode cJ_abs 0 = .ok (.lload_n 0, 1) := by decide +kernel
theorem dJ_abs_1 : decode cJ_abs 1 = .ok (.lconst 0, 1) := by decide +kernel
theorem dJ_abs_2 : decode cJ_abs 2 = .ok (.lcmp, 1) := by decide +kernel
theorem dJ_abs_3 : decode cJ_abs 3 = .ok (.ifCond .ge 8, 3) := by decide +kernel
theorem dJ_abs_6 : decode cJ_abs 6 = .ok (.lload_n 0, 1) := by decide +kernel
theorem dJ_abs_7 : decode cJ_abs 7 = .ok (.lneg, 1) := by decide +kernel
theorem dJ_abs_8 : decode cJ_abs 8 = .ok (.goto 4, 3) := by decide +kernel
theorem dJ_abs_11 : decode cJ_abs 11 = .ok (.lload_n 0, 1) := by decide +kernel
theorem dJ_abs_12 : decode cJ_abs 12 = .ok (.lreturn, 1) := by decide +kernel
theorem dJ_max_f86c_0 : decode cJ_max_f86c 0 = .ok (.lload_n 0, 1) := by decide +kernel
theorem dJ_max_f86c_1 : decode cJ_max_f86c 1 = .ok (.lload_n 2, 1) := by decide +kernel
theorem dJ_max_f86c_2 : decode cJ_max_f86c 2 = .ok (.lcmp, 1) := by decide +kernel
theorem dJ_max_f86c_3 : decode cJ_max_f86c 3 = .ok (.ifCond .lt 7, 3) := by decide +kernel
theorem dJ_max_f86c_6 : decode cJ_max_f86c 6 = .ok (.lload_n 0, 1) := by decide +kernel
theorem dJ_max_f86c_7 : decode cJ_max_f86c 7 = .ok (.goto 4, 3) := by decide +kernel
theorem dJ_max_f86c_10 : decode cJ_max_f86c 10 = .ok (.lload_n 2, 1) := by decide +kernel
theorem dJ_max_f86c_11 : decode cJ_max_f86c 11 = .ok (.lreturn, 1) := by decide +kernel
theorem dV_findBounds_0 : decode cV_findBounds 0 = .ok (.aload_n 0, 1) := by decide +kernel
theorem dV_findBounds_1 : decode cV_findBounds 1 = .ok (.ldc2_w 15, 3) := by decide +kernel
theorem dV_findBounds_4 : decode cV_findBounds 4 = .ok (.putfield 17, 3) := by decide +kernel
theorem dV_findBounds_7 : decode cV_findBounds 7 = .ok (.aload_n 0, 1) := by decide +kernel
theorem dV_findBounds_8 : decode cV_findBounds 8 = .ok (.ldc2_w 21, 3) := by decide +kernel
theorem dV_findBounds_11 : decode cV_findBounds 11 = .ok (.putfield 23, 3) := by decide +kernel
theorem dV_findBounds_14 : decode cV_findBounds 14 = .ok (.iconst 0, 1) := by decide +kernel
theorem dV_findBounds_15 : decode cV_findBounds 15 = .ok (.istore_n 1, 1) := by decide +kernel
theorem dV_findBounds_16 : decode cV_findBounds 16 = .ok (.iload_n 1, 1) := by decide +kernel
theorem dV_findBounds_17 : decode cV_findBounds 17 = .ok (.iconst 5, 1) := by decide +kernel
theorem dV_findBounds_18 : decode cV_findBounds 18 = .ok (.if_icmp .ge 105, 3) := by decide +kernel
theorem dV_findBounds_21 : decode cV_findBounds 21 = .ok (.aload_n 0, 1) := by decide +kernel
theorem dV_findBounds_22 : decode cV_findBounds 22 = .ok (.getfield 9, 3) := by decide +kernel
theorem dV_findBounds_25 : decode cV_findBounds 25 = .ok (.iload_n 1, 1) := by decide +kernel
theorem dV_findBounds_26 : decode cV_findBounds 26 = .ok (.invokestatic 50, 3) := by decide +kernel
theorem dV_findBounds_29 : decode cV_findBounds 29 = .ok (.ifCond .eq 88, 3) := by decide +kernel
theorem dV_findBounds_32 : decode cV_findBounds 32 = .ok (.aload_n 0, 1) := by decide +kernel
theorem dV_findBounds_33 : decode cV_findBounds 33 = .ok (.getfield 29, 3) := by decide +kernel
theorem dV_findBounds_36 : decode cV_findBounds 36 = .ok (.iload_n 1, 1) := by decide +kernel
theorem dV_findBounds_37 : decode cV_findBounds 37 = .ok (.laload, 1) := by decide +kernel
theorem dV_findBounds_38 : decode cV_findBounds 38 = .ok (.aload_n 0, 1) := by decide +kernel
theorem dV_findBounds_39 : decode cV_findBounds 39 = .ok (.getfield 33, 3) := by decide +kernel
theorem dV_findBounds_42 : decode cV_findBounds 42 = .ok (.iload_n 1, 1) := by decide +kernel
theorem dV_findBounds_43 : decode cV_findBounds 43 = .ok (.laload, 1) := by decide +kernel
theorem dV_findBounds_44 : decode cV_findBounds 44 = .ok (.lsub, 1) := by decide +kernel
theorem dV_findBounds_45 : decode cV_findBounds 45 = .ok (.lstore_n 2, 1) := by decide +kernel
theorem dV_findBounds_46 : decode cV_findBounds 46 = .ok (.aload_n 0, 1) := by decide +kernel
theorem dV_findBounds_47 : decode cV_findBounds 47 = .ok (.getfield 29, 3) := by decide +kernel
theorem dV_findBounds_50 : decode cV_findBounds 50 = .ok (.iload_n 1, 1) := by decide +kernel
theorem dV_findBounds_51 : decode cV_findBounds 51 = .ok (.laload, 1) := by decide +kernel
theorem dV_findBounds_52 : decode cV_findBounds 52 = .ok (.aload_n 0, 1) := by decide +kernel
theorem dV_findBounds_53 : decode cV_findBounds 53 = .ok (.getfield 33, 3) := by decide +kernel
theorem dV_findBounds_56 : decode cV_findBounds 56 = .ok (.iload_n 1, 1) := by decide +kernel
theorem dV_findBounds_57 : decode cV_findBounds 57 = .ok (.laload, 1) := by decide +kernel
theorem dV_findBounds_58 : decode cV_findBounds 58 = .ok (.ladd, 1) := by decide +kernel
theorem dV_findBounds_59 : decode cV_findBounds 59 = .ok (.lstore 4, 2) := by decide +kernel
theorem dV_findBounds_61 : decode cV_findBounds 61 = .ok (.aload_n 0, 1) := by decide +kernel
theorem dV_findBounds_62 : decode cV_findBounds 62 = .ok (.aload_n 0, 1) := by decide +kernel
theorem dV_findBounds_63 : decode cV_findBounds 63 = .ok (.lload_n 2, 1) := by decide +kernel
theorem dV_findBounds_64 : decode cV_findBounds 64 = .ok (.invokevirtual 95, 3) := by decide +kernel
theorem dV_findBounds_67 : decode cV_findBounds 67 = .ok (.ifCond .eq 14, 3) := by decide +kernel
theorem dV_findBounds_70 : decode cV_findBounds 70 = .ok (.aload_n 0, 1) := by decide +kernel
theorem dV_findBounds_71 : decode cV_findBounds 71 = .ok (.getfield 17, 3) := by decide +kernel
theorem dV_findBounds_74 : decode cV_findBounds 74 = .ok (.lload_n 2, 1) := by decide +kernel
theorem dV_findBounds_75 : decode cV_findBounds 75 = .ok (.invokestatic 99, 3) := by decide +kernel
theorem dV_findBounds_78 : decode cV_findBounds 78 = .ok (.goto 7, 3) := by decide +kernel
theorem dV_findBounds_81 : decode cV_findBounds 81 = .ok (.aload_n 0, 1) := by decide +kernel
theorem dV_findBounds_82 : decode cV_findBounds 82 = .ok (.getfield 17, 3) := by decide +kernel
theorem dV_findBounds_85 : decode cV_findBounds 85 = .ok (.putfield 17, 3) := by decide +kernel
theorem dV_findBounds_88 : decode cV_findBounds 88 = .ok (.aload_n 0, 1) := by decide +kernel
theorem dV_findBounds_89 : decode cV_findBounds 89 = .ok (.aload_n 0, 1) := by decide +kernel
theorem dV_findBounds_90 : decode cV_findBounds 90 = .ok (.lload 4, 2) := by decide +kernel
theorem dV_findBounds_92 : decode cV_findBounds 92 = .ok (.invokevirtual 95, 3) := by decide +kernel
theorem dV_findBounds_95 : decode cV_findBounds 95 = .ok (.ifCond .eq 15, 3) := by decide +kernel
theorem dV_findBounds_98 : decode cV_findBounds 98 = .ok (.aload_n 0, 1) := by decide +kernel
theorem dV_findBounds_99 : decode cV_findBounds 99 = .ok (.getfield 23, 3) := by decide +kernel
theorem dV_findBounds_102 : decode cV_findBounds 102 = .ok (.lload 4, 2) := by decide +kernel
theorem dV_findBounds_104 : decode cV_findBounds 104 = .ok (.invokestatic 102, 3) := by decide +kernel
theorem dV_findBounds_107 : decode cV_findBounds 107 = .ok (.goto 7, 3) := by decide +kernel
theorem dV_findBounds_110 : decode cV_findBounds 110 = .ok (.aload_n 0, 1) := by decide +kernel
theorem dV_findBounds_111 : decode cV_findBounds 111 = .ok (.getfield 23, 3) := by decide +kernel
theorem dV_findBounds_114 : decode cV_findBounds 114 = .ok (.putfield 23, 3) := by decide +kernel
theorem dV_findBounds_117 : decode cV_findBounds 117 = .ok (.iinc 1 1, 3) := by decide +kernel
theorem dV_findBounds_120 : decode cV_findBounds 120 = .ok (.goto (-104), 3) := by decide +kernel
theorem dV_findBounds_123 : decode cV_findBounds 123 = .ok (.return_, 1) := by decide +kernel
theorem dV_has_0 : decode cV_has 0 = .ok (.iload_n 0, 1) := by decide +kernel
theorem dV_has_1 : decode cV_has 1 = .ok (.iload_n 1, 1) := by decide +kernel
theorem dV_has_2 : decode cV_has 2 = .ok (.ishr, 1) := by decide +kernel
theorem dV_has_3 : decode cV_has 3 = .ok (.iconst 1, 1) := by decide +kernel
theorem dV_has_4 : decode cV_has 4 = .ok (.iand, 1) := by decide +kernel
theorem dV_has_5 : decode cV_has 5 = .ok (.ifCond .eq 7, 3) := by decide +kernel
theorem dV_has_8 : decode cV_has 8 = .ok (.iconst 1, 1) := by decide +kernel
theorem dV_has_9 : decode cV_has 9 = .ok (.goto 4, 3) := by decide +kernel
theorem dV_has_12 : decode cV_has 12 = .ok (.iconst 0, 1) := by decide +kernel
theorem dV_has_13 : decode cV_has 13 = .ok (.ireturn, 1) := by decide +kernel
theorem dV_isInMost_0 : decode cV_isInMost 0 = .ok (.iconst 0, 1) := by decide +kernel
theorem dV_isInMost_1 : decode cV_isInMost 1 = .ok (.istore_n 3, 1) := by decide +kernel
theorem dV_isInMost_2 : decode cV_isInMost 2 = .ok (.iconst 0, 1) := by decide +kernel
theorem dV_isInMost_3 : decode cV_isInMost 3 = .ok (.istore 4, 2) := by decide +kernel
theorem dV_isInMost_5 : decode cV_isInMost 5 = .ok (.iload 4, 2) := by decide +kernel
theorem dV_isInMost_7 : decode cV_isInMost 7 = .ok (.iconst 5, 1) := by decide +kernel
theorem dV_isInMost_8 : decode cV_isInMost 8 = .ok (.if_icmp .ge 47, 3) := by decide +kernel
theorem dV_isInMost_11 : decode cV_isInMost 11 = .ok (.aload_n 0, 1) := by decide +kernel
theorem dV_isInMost_12 : decode cV_isInMost 12 = .ok (.getfield 9, 3) := by decide +kernel
theorem dV_isInMost_15 : decode cV_isInMost 15 = .ok (.iload 4, 2) := by decide +kernel
theorem dV_isInMost_17 : decode cV_isInMost 17 = .ok (.invokestatic 50, 3) := by decide +kernel
theorem dV_isInMost_20 : decode cV_isInMost 20 = .ok (.ifCond .eq 29, 3) := by decide +kernel
theorem dV_isInMost_23 : decode cV_isInMost 23 = .ok (.lload_n 1, 1) := by decide +kernel
theorem dV_isInMost_24 : decode cV_isInMost 24 = .ok (.aload_n 0, 1) := by decide +kernel
theorem dV_isInMost_25 : decode cV_isInMost 25 = .ok (.getfield 29, 3) := by decide +kernel
theorem dV_isInMost_28 : decode cV_isInMost 28 = .ok (.iload 4, 2) := by decide +kernel
theorem dV_isInMost_30 : decode cV_isInMost 30 = .ok (.laload, 1) := by decide +kernel
theorem dV_isInMost_31 : decode cV_isInMost 31 = .ok (.lsub, 1) := by decide +kernel
theorem dV_isInMost_32 : decode cV_isInMost 32 = .ok (.invokestatic 104, 3) := by decide +kernel
theorem dV_isInMost_35 : decode cV_isInMost 35 = .ok (.aload_n 0, 1) := by decide +kernel
theorem dV_isInMost_36 : decode cV_isInMost 36 = .ok (.getfield 33, 3) := by decide +kernel
theorem dV_isInMost_39 : decode cV_isInMost 39 = .ok (.iload 4, 2) := by decide +kernel
theorem dV_isInMost_41 : decode cV_isInMost 41 = .ok (.laload, 1) := by decide +kernel
theorem dV_isInMost_42 : decode cV_isInMost 42 = .ok (.lcmp, 1) := by decide +kernel
theorem dV_isInMost_43 : decode cV_isInMost 43 = .ok (.ifCond .gt 6, 3) := by decide +kernel
theorem dV_isInMost_46 : decode cV_isInMost 46 = .ok (.iinc 3 1, 3) := by decide +kernel
theorem dV_isInMost_49 : decode cV_isInMost 49 = .ok (.iinc 4 1, 3) := by decide +kernel
theorem dV_isInMost_52 : decode cV_isInMost 52 = .ok (.goto (-47), 3) := by decide +kernel
theorem dV_isInMost_55 : decode cV_isInMost 55 = .ok (.iconst 2, 1) := by decide +kernel
theorem dV_isInMost_56 : decode cV_isInMost 56 = .ok (.iload_n 3, 1) := by decide +kernel
theorem dV_isInMost_57 : decode cV_isInMost 57 = .ok (.imul, 1) := by decide +kernel
theorem dV_isInMost_58 : decode cV_isInMost 58 = .ok (.aload_n 0, 1) := by decide +kernel
theorem dV_isInMost_59 : decode cV_isInMost 59 = .ok (.getfield 9, 3) := by decide +kernel
theorem dV_isInMost_62 : decode cV_isInMost 62 = .ok (.invokestatic 64, 3) := by decide +kernel
theorem dV_isInMost_65 : decode cV_isInMost 65 = .ok (.if_icmp .le 7, 3) := by decide +kernel
theorem dV_isInMost_68 : decode cV_isInMost 68 = .ok (.iconst 1, 1) := by decide +kernel
theorem dV_isInMost_69 : decode cV_isInMost 69 = .ok (.goto 4, 3) := by decide +kernel
theorem dV_isInMost_72 : decode cV_isInMost 72 = .ok (.iconst 0, 1) := by decide +kernel
theorem dV_isInMost_73 : decode cV_isInMost 73 = .ok (.ireturn, 1) := by decide +kernel
theorem dI_bitCount_0 : decode cI_bitCount 0 = .ok (.iload_n 0, 1) := by decide +kernel
theorem dI_bitCount_1 : decode cI_bitCount 1 = .ok (.iload_n 0, 1) := by decide +kernel
theorem dI_bitCount_2 : decode cI_bitCount 2 = .ok (.iconst 1, 1) := by decide +kernel
theorem dI_bitCount_3 : decode cI_bitCount 3 = .ok (.iushr, 1) := by decide +kernel
theorem dI_bitCount_4 : decode cI_bitCount 4 = .ok (.ldc_w 265, 3) := by decide +kernel
theorem dI_bitCount_7 : decode cI_bitCount 7 = .ok (.iand, 1) := by decide +kernel
theorem dI_bitCount_8 : decode cI_bitCount 8 = .ok (.isub, 1) := by decide +kernel
theorem dI_bitCount_9 : decode cI_bitCount 9 = .ok (.istore_n 0, 1) := by decide +kernel
theorem dI_bitCount_10 : decode cI_bitCount 10 = .ok (.iload_n 0, 1) := by decide +kernel
theorem dI_bitCount_11 : decode cI_bitCount 11 = .ok (.ldc_w 266, 3) := by decide +kernel
theorem dI_bitCount_14 : decode cI_bitCount 14 = .ok (.iand, 1) := by decide +kernel
theorem dI_bitCount_15 : decode cI_bitCount 15 = .ok (.iload_n 0, 1) := by decide +kernel
theorem dI_bitCount_16 : decode cI_bitCount 16 = .ok (.iconst 2, 1) := by decide +kernel
theorem dI_bitCount_17 : decode cI_bitCount 17 = .ok (.iushr, 1) := by decide +kernel
theorem dI_bitCount_18 : decode cI_bitCount 18 = .ok (.ldc_w 266, 3) := by decide +kernel
theorem dI_bitCount_21 : decode cI_bitCount 21 = .ok (.iand, 1) := by decide +kernel
theorem dI_bitCount_22 : decode cI_bitCount 22 = .ok (.iadd, 1) := by decide +kernel
theorem dI_bitCount_23 : decode cI_bitCount 23 = .ok (.istore_n 0, 1) := by decide +kernel
theorem dI_bitCount_24 : decode cI_bitCount 24 = .ok (.iload_n 0, 1) := by decide +kernel
theorem dI_bitCount_25 : decode cI_bitCount 25 = .ok (.iload_n 0, 1) := by decide +kernel
theorem dI_bitCount_26 : decode cI_bitCount 26 = .ok (.iconst 4, 1) := by decide +kernel
theorem dI_bitCount_27 : decode cI_bitCount 27 = .ok (.iushr, 1) := by decide +kernel
theorem dI_bitCount_28 : decode cI_bitCount 28 = .ok (.iadd, 1) := by decide +kernel
theorem dI_bitCount_29 : decode cI_bitCount 29 = .ok (.ldc_w 267, 3) := by decide +kernel
theorem dI_bitCount_32 : decode cI_bitCount 32 = .ok (.iand, 1) := by decide +kernel
theorem dI_bitCount_33 : decode cI_bitCount 33 = .ok (.istore_n 0, 1) := by decide +kernel
theorem dI_bitCount_34 : decode cI_bitCount 34 = .ok (.iload_n 0, 1) := by decide +kernel
theorem dI_bitCount_35 : decode cI_bitCount 35 = .ok (.iload_n 0, 1) := by decide +kernel
theorem dI_bitCount_36 : decode cI_bitCount 36 = .ok (.bipush 8, 2) := by decide +kernel
theorem dI_bitCount_38 : decode cI_bitCount 38 = .ok (.iushr, 1) := by decide +kernel
theorem dI_bitCount_39 : decode cI_bitCount 39 = .ok (.iadd, 1) := by decide +kernel
theorem dI_bitCount_40 : decode cI_bitCount 40 = .ok (.istore_n 0, 1) := by decide +kernel
theorem dI_bitCount_41 : decode cI_bitCount 41 = .ok (.iload_n 0, 1) := by decide +kernel
theorem dI_bitCount_42 : decode cI_bitCount 42 = .ok (.iload_n 0, 1) := by decide +kernel
theorem dI_bitCount_43 : decode cI_bitCount 43 = .ok (.bipush 16, 2) := by decide +kernel
theorem dI_bitCount_45 : decode cI_bitCount 45 = .ok (.iushr, 1) := by decide +kernel
theorem dI_bitCount_46 : decode cI_bitCount 46 = .ok (.iadd, 1) := by decide +kernel
theorem dI_bitCount_47 : decode cI_bitCount 47 = .ok (.istore_n 0, 1) := by decide +kernel
theorem dI_bitCount_48 : decode cI_bitCount 48 = .ok (.iload_n 0, 1) := by decide +kernel
theorem dI_bitCount_49 : decode cI_bitCount 49 = .ok (.bipush 63, 2) := by decide +kernel
theorem dI_bitCount_51 : decode cI_bitCount 51 = .ok (.iand, 1) := by decide +kernel
theorem dI_bitCount_52 : decode cI_bitCount 52 = .ok (.ireturn, 1) := by decide +kernel
theorem dJ_min_f86c_0 : decode cJ_min_f86c 0 = .ok (.lload_n 0, 1) := by decide +kernel
theorem dJ_min_f86c_1 : decode cJ_min_f86c 1 = .ok (.lload_n 2, 1) := by decide +kernel
theorem dJ_min_f86c_2 : decode cJ_min_f86c 2 = .ok (.lcmp, 1) := by decide +kernel
theorem dJ_min_f86c_3 : decode cJ_min_f86c 3 = .ok (.ifCond .gt 7, 3) := by decide +kernel
theorem dJ_min_f86c_6 : decode cJ_min_f86c 6 = .ok (.lload_n 0, 1) := by decide +kernel
theorem dJ_min_f86c_7 : decode cJ_min_f86c 7 = .ok (.goto 4, 3) := by decide +kernel
theorem dJ_min_f86c_10 : decode cJ_min_f86c 10 = .ok (.lload_n 2, 1) := by decide +kernel
theorem dJ_min_f86c_11 : decode cJ_min_f86c 11 = .ok (.lreturn, 1) := by decide +kernel
theorem dV_findSurvivors_0 : decode cV_findSurvivors 0 = .ok (.aload_n 0, 1) := by decide +kernel
theorem dV_findSurvivors_1 : decode cV_findSurvivors 1 = .ok (.iconst 0, 1) := by decide +kernel
theorem dV_findSurvivors_2 : decode cV_findSurvivors 2 = .ok (.putfield 26, 3) := by decide +kernel
theorem dV_findSurvivors_5 : decode cV_findSurvivors 5 = .ok (.iconst 0, 1) := by decide +kernel
theorem dV_findSurvivors_6 : decode cV_findSurvivors 6 = .ok (.istore_n 1, 1) := by decide +kernel
theorem dV_findSurvivors_7 : decode cV_findSurvivors 7 = .ok (.iload_n 1, 1) := by decide +kernel
theorem dV_findSurvivors_8 : decode cV_findSurvivors 8 = .ok (.iconst 5, 1) := by decide +kernel
theorem dV_findSurvivors_9 : decode cV_findSurvivors 9 = .ok (.if_icmp .ge 60, 3) := by decide +kernel
theorem dV_findSurvivors_12 : decode cV_findSurvivors 12 = .ok (.aload_n 0, 1) := by decide +kernel
theorem dV_findSurvivors_13 : decode cV_findSurvivors 13 = .ok (.getfield 9, 3) := by decide +kernel
theorem dV_findSurvivors_16 : decode cV_findSurvivors 16 = .ok (.iload_n 1, 1) := by decide +kernel
theorem dV_findSurvivors_17 : decode cV_findSurvivors 17 = .ok (.invokestatic 50, 3) := by decide +kernel
theorem dV_findSurvivors_20 : decode cV_findSurvivors 20 = .ok (.ifCond .eq 43, 3) := by decide +kernel
theorem dV_findSurvivors_23 : decode cV_findSurvivors 23 = .ok (.aload_n 0, 1) := by decide +kernel
theorem dV_findSurvivors_24 : decode cV_findSurvivors 24 = .ok (.getfield 29, 3) := by decide +kernel
theorem dV_findSurvivors_27 : decode cV_findSurvivors 27 = .ok (.iload_n 1, 1) := by decide +kernel
theorem dV_findSurvivors_28 : decode cV_findSurvivors 28 = .ok (.laload, 1) := by decide +kernel
theorem dV_findSurvivors_29 : decode cV_findSurvivors 29 = .ok (.aload_n 0, 1) := by decide +kernel
theorem dV_findSurvivors_30 : decode cV_findSurvivors 30 = .ok (.getfield 17, 3) := by decide +kernel
theorem dV_findSurvivors_33 : decode cV_findSurvivors 33 = .ok (.lcmp, 1) := by decide +kernel
theorem dV_findSurvivors_34 : decode cV_findSurvivors 34 = .ok (.ifCond .lt 29, 3) := by decide +kernel
theorem dV_findSurvivors_37 : decode cV_findSurvivors 37 = .ok (.aload_n 0, 1) := by decide +kernel
theorem dV_findSurvivors_38 : decode cV_findSurvivors 38 = .ok (.getfield 29, 3) := by decide +kernel
theorem dV_findSurvivors_41 : decode cV_findSurvivors 41 = .ok (.iload_n 1, 1) := by decide +kernel
theorem dV_findSurvivors_42 : decode cV_findSurvivors 42 = .ok (.laload, 1) := by decide +kernel
theorem dV_findSurvivors_43 : decode cV_findSurvivors 43 = .ok (.aload_n 0, 1) := by decide +kernel
theorem dV_findSurvivors_44 : decode cV_findSurvivors 44 = .ok (.getfield 23, 3) := by decide +kernel
theorem dV_findSurvivors_47 : decode cV_findSurvivors 47 = .ok (.lcmp, 1) := by decide +kernel
theorem dV_findSurvivors_48 : decode cV_findSurvivors 48 = .ok (.ifCond .gt 15, 3) := by decide +kernel
theorem dV_findSurvivors_51 : decode cV_findSurvivors 51 = .ok (.aload_n 0, 1) := by decide +kernel
theorem dV_findSurvivors_52 : decode cV_findSurvivors 52 = .ok (.dup, 1) := by decide +kernel
theorem dV_findSurvivors_53 : decode cV_findSurvivors 53 = .ok (.getfield 26, 3) := by decide +kernel
theorem dV_findSurvivors_56 : decode cV_findSurvivors 56 = .ok (.iconst 1, 1) := by decide +kernel
theorem dV_findSurvivors_57 : decode cV_findSurvivors 57 = .ok (.iload_n 1, 1) := by decide +kernel
theorem dV_findSurvivors_58 : decode cV_findSurvivors 58 = .ok (.ishl, 1) := by decide +kernel
theorem dV_findSurvivors_59 : decode cV_findSurvivors 59 = .ok (.ior, 1) := by decide +kernel
theorem dV_findSurvivors_60 : decode cV_findSurvivors 60 = .ok (.putfield 26, 3) := by decide +kernel
theorem dV_findSurvivors_63 : decode cV_findSurvivors 63 = .ok (.iinc 1 1, 3) := by decide +kernel
theorem dV_findSurvivors_66 : decode cV_findSurvivors 66 = .ok (.goto (-59), 3) := by decide +kernel
theorem dV_findSurvivors_69 : decode cV_findSurvivors 69 = .ok (.aload_n 0, 1) := by decide +kernel
theorem dV_findSurvivors_70 : decode cV_findSurvivors 70 = .ok (.getfield 26, 3) := by decide +kernel
theorem dV_findSurvivors_73 : decode cV_findSurvivors 73 = .ok (.invokestatic 64, 3) := by decide +kernel
theorem dV_findSurvivors_76 : decode cV_findSurvivors 76 = .ok (.istore_n 1, 1) := by decide +kernel
theorem dV_findSurvivors_77 : decode cV_findSurvivors 77 = .ok (.iload_n 1, 1) := by decide +kernel
theorem dV_findSurvivors_78 : decode cV_findSurvivors 78 = .ok (.iconst 3, 1) := by decide +kernel
theorem dV_findSurvivors_79 : decode cV_findSurvivors 79 = .ok (.if_icmp .le 26, 3) := by decide +kernel
theorem dV_findSurvivors_82 : decode cV_findSurvivors 82 = .ok (.aload_n 0, 1) := by decide +kernel
theorem dV_findSurvivors_83 : decode cV_findSurvivors 83 = .ok (.dup, 1) := by decide +kernel
theorem dV_findSurvivors_84 : decode cV_findSurvivors 84 = .ok (.getfield 26, 3) := by decide +kernel
theorem dV_findSurvivors_87 : decode cV_findSurvivors 87 = .ok (.iconst 1, 1) := by decide +kernel
theorem dV_findSurvivors_88 : decode cV_findSurvivors 88 = .ok (.aload_n 0, 1) := by decide +kernel
theorem dV_findSurvivors_89 : decode cV_findSurvivors 89 = .ok (.invokevirtual 107, 3) := by decide +kernel
theorem dV_findSurvivors_92 : decode cV_findSurvivors 92 = .ok (.ishl, 1) := by decide +kernel
theorem dV_findSurvivors_93 : decode cV_findSurvivors 93 = .ok (.iconst (-1), 1) := by decide +kernel
theorem dV_findSurvivors_94 : decode cV_findSurvivors 94 = .ok (.ixor, 1) := by decide +kernel
theorem dV_findSurvivors_95 : decode cV_findSurvivors 95 = .ok (.iand, 1) := by decide +kernel
theorem dV_findSurvivors_96 : decode cV_findSurvivors 96 = .ok (.putfield 26, 3) := by decide +kernel
theorem dV_findSurvivors_99 : decode cV_findSurvivors 99 = .ok (.iinc 1 (-1), 3) := by decide +kernel
theorem dV_findSurvivors_102 : decode cV_findSurvivors 102 = .ok (.goto (-25), 3) := by decide +kernel
theorem dV_findSurvivors_105 : decode cV_findSurvivors 105 = .ok (.return_, 1) := by decide +kernel
theorem dV_findFarthest_0 : decode cV_findFarthest 0 = .ok (.iconst 0, 1) := by decide +kernel
theorem dV_findFarthest_1 : decode cV_findFarthest 1 = .ok (.istore_n 1, 1) := by decide +kernel
theorem dV_findFarthest_2 : decode cV_findFarthest 2 = .ok (.ldc2_w 111, 3) := by decide +kernel
theorem dV_findFarthest_5 : decode cV_findFarthest 5 = .ok (.lstore_n 2, 1) := by decide +kernel
theorem dV_findFarthest_6 : decode cV_findFarthest 6 = .ok (.iconst 0, 1) := by decide +kernel
theorem dV_findFarthest_7 : decode cV_findFarthest 7 = .ok (.istore 4, 2) := by decide +kernel
theorem dV_findFarthest_9 : decode cV_findFarthest 9 = .ok (.iload 4, 2) := by decide +kernel
theorem dV_findFarthest_11 : decode cV_findFarthest 11 = .ok (.iconst 5, 1) := by decide +kernel
theorem dV_findFarthest_12 : decode cV_findFarthest 12 = .ok (.if_icmp .ge 42, 3) := by decide +kernel
theorem dV_findFarthest_15 : decode cV_findFarthest 15 = .ok (.aload_n 0, 1) := by decide +kernel
theorem dV_findFarthest_16 : decode cV_findFarthest 16 = .ok (.getfield 26, 3) := by decide +kernel
theorem dV_findFarthest_19 : decode cV_findFarthest 19 = .ok (.iload 4, 2) := by decide +kernel
theorem dV_findFarthest_21 : decode cV_findFarthest 21 = .ok (.invokestatic 50, 3) := by decide +kernel
theorem dV_findFarthest_24 : decode cV_findFarthest 24 = .ok (.ifCond .eq 24, 3) := by decide +kernel
theorem dV_findFarthest_27 : decode cV_findFarthest 27 = .ok (.aload_n 0, 1) := by decide +kernel
theorem dV_findFarthest_28 : decode cV_findFarthest 28 = .ok (.iload 4, 2) := by decide +kernel
theorem dV_findFarthest_30 : decode cV_findFarthest 30 = .ok (.invokevirtual 113, 3) := by decide +kernel
theorem dV_findFarthest_33 : decode cV_findFarthest 33 = .ok (.lload_n 2, 1) := by decide +kernel
theorem dV_findFarthest_34 : decode cV_findFarthest 34 = .ok (.lcmp, 1) := by decide +kernel
theorem dV_findFarthest_35 : decode cV_findFarthest 35 = .ok (.ifCond .lt 13, 3) := by decide +kernel
theorem dV_findFarthest_38 : decode cV_findFarthest 38 = .ok (.iload 4, 2) := by decide +kernel
theorem dV_findFarthest_40 : decode cV_findFarthest 40 = .ok (.istore_n 1, 1) := by decide +kernel
theorem dV_findFarthest_41 : decode cV_findFarthest 41 = .ok (.aload_n 0, 1) := by decide +kernel
theorem dV_findFarthest_42 : decode cV_findFarthest 42 = .ok (.iload 4, 2) := by decide +kernel
theorem dV_findFarthest_44 : decode cV_findFarthest 44 = .ok (.invokevirtual 113, 3) := by decide +kernel
theorem dV_findFarthest_47 : decode cV_findFarthest 47 = .ok (.lstore_n 2, 1) := by decide +kernel
theorem dV_findFarthest_48 : decode cV_findFarthest 48 = .ok (.iinc 4 1, 3) := by decide +kernel
theorem dV_findFarthest_51 : decode cV_findFarthest 51 = .ok (.goto (-42), 3) := by decide +kernel
theorem dV_findFarthest_54 : decode cV_findFarthest 54 = .ok (.iload_n 1, 1) := by decide +kernel
theorem dV_findFarthest_55 : decode cV_findFarthest 55 = .ok (.ireturn, 1) := by decide +kernel
end
section
theorem dV_spreadOf_0 : decode cV_spreadOf 0 = .ok (.lconst 0, 1) := by decide +kernel
theorem dV_spreadOf_1 : decode cV_spreadOf 1 = .ok (.lstore_n 2, 1) := by decide +kernel
theorem dV_spreadOf_2 : decode cV_spreadOf 2 = .ok (.iconst 0, 1) := by decide +kernel
theorem dV_spreadOf_3 : decode cV_spreadOf 3 = .ok (.istore 4, 2) := by decide +kernel
theorem dV_spreadOf_5 : decode cV_spreadOf 5 = .ok (.iload 4, 2) := by decide +kernel
theorem dV_spreadOf_7 : decode cV_spreadOf 7 = .ok (.iconst 5, 1) := by decide +kernel
theorem dV_spreadOf_8 : decode cV_spreadOf 8 = .ok (.if_icmp .ge 41, 3) := by decide +kernel
theorem dV_spreadOf_11 : decode cV_spreadOf 11 = .ok (.aload_n 0, 1) := by decide +kernel
theorem dV_spreadOf_12 : decode cV_spreadOf 12 = .ok (.getfield 26, 3) := by decide +kernel
theorem dV_spreadOf_15 : decode cV_spreadOf 15 = .ok (.iload 4, 2) := by decide +kernel
theorem dV_spreadOf_17 : decode cV_spreadOf 17 = .ok (.invokestatic 50, 3) := by decide +kernel
theorem dV_spreadOf_20 : decode cV_spreadOf 20 = .ok (.ifCond .eq 23, 3) := by decide +kernel
theorem dV_spreadOf_23 : decode cV_spreadOf 23 = .ok (.lload_n 2, 1) := by decide +kernel
theorem dV_spreadOf_24 : decode cV_spreadOf 24 = .ok (.aload_n 0, 1) := by decide +kernel
theorem dV_spreadOf_25 : decode cV_spreadOf 25 = .ok (.getfield 29, 3) := by decide +kernel
theorem dV_spreadOf_28 : decode cV_spreadOf 28 = .ok (.iload_n 1, 1) := by decide +kernel
theorem dV_spreadOf_29 : decode cV_spreadOf 29 = .ok (.laload, 1) := by decide +kernel
theorem dV_spreadOf_30 : decode cV_spreadOf 30 = .ok (.aload_n 0, 1) := by decide +kernel
theorem dV_spreadOf_31 : decode cV_spreadOf 31 = .ok (.getfield 29, 3) := by decide +kernel
theorem dV_spreadOf_34 : decode cV_spreadOf 34 = .ok (.iload 4, 2) := by decide +kernel
theorem dV_spreadOf_36 : decode cV_spreadOf 36 = .ok (.laload, 1) := by decide +kernel
theorem dV_spreadOf_37 : decode cV_spreadOf 37 = .ok (.lsub, 1) := by decide +kernel
theorem dV_spreadOf_38 : decode cV_spreadOf 38 = .ok (.invokestatic 104, 3) := by decide +kernel
theorem dV_spreadOf_41 : decode cV_spreadOf 41 = .ok (.ladd, 1) := by decide +kernel
theorem dV_spreadOf_42 : decode cV_spreadOf 42 = .ok (.lstore_n 2, 1) := by decide +kernel
theorem dV_spreadOf_43 : decode cV_spreadOf 43 = .ok (.iinc 4 1, 3) := by decide +kernel
theorem dV_spreadOf_46 : decode cV_spreadOf 46 = .ok (.goto (-41), 3) := by decide +kernel
theorem dV_spreadOf_49 : decode cV_spreadOf 49 = .ok (.lload_n 2, 1) := by decide +kernel
theorem dV_spreadOf_50 : decode cV_spreadOf 50 = .ok (.lreturn, 1) := by decide +kernel
theorem dC_survivors_0 : decode cC_survivors 0 = .ok (.aload_n 0, 1) := by decide +kernel
theorem dC_survivors_1 : decode cC_survivors 1 = .ok (.getfield 26, 3) := by decide +kernel
theorem dC_survivors_4 : decode cC_survivors 4 = .ok (.aload_n 0, 1) := by decide +kernel
theorem dC_survivors_5 : decode cC_survivors 5 = .ok (.getfield 18, 3) := by decide +kernel
theorem dC_survivors_8 : decode cC_survivors 8 = .ok (.aload_n 0, 1) := by decide +kernel
theorem dC_survivors_9 : decode cC_survivors 9 = .ok (.getfield 30, 3) := by decide +kernel
theorem dC_survivors_12 : decode cC_survivors 12 = .ok (.invokevirtual 134, 3) := by decide +kernel
theorem dC_survivors_15 : decode cC_survivors 15 = .ok (.aload_n 0, 1) := by decide +kernel
theorem dC_survivors_16 : decode cC_survivors 16 = .ok (.getfield 26, 3) := by decide +kernel
theorem dC_survivors_19 : decode cC_survivors 19 = .ok (.getfield 153, 3) := by decide +kernel
theorem dC_survivors_22 : decode cC_survivors 22 = .ok (.ireturn, 1) := by decide +kernel
theorem dL_run_0 : decode cL_run 0 = .ok (.aload_n 0, 1) := by decide +kernel
theorem dL_run_1 : decode cL_run 1 = .ok (.lload_n 1, 1) := by decide +kernel
theorem dL_run_2 : decode cL_run 2 = .ok (.invokevirtual 7, 3) := by decide +kernel
theorem dL_run_5 : decode cL_run 5 = .ok (.goto 6, 3) := by decide +kernel
theorem dL_run_8 : decode cL_run 8 = .ok (.astore_n 3, 1) := by decide +kernel
theorem dL_run_9 : decode cL_run 9 = .ok (.iconst 1, 1) := by decide +kernel
theorem dL_run_10 : decode cL_run 10 = .ok (.ireturn, 1) := by decide +kernel
theorem dL_run_11 : decode cL_run 11 = .ok (.iconst 0, 1) := by decide +kernel
theorem dL_run_12 : decode cL_run 12 = .ok (.ireturn, 1) := by decide +kernel
theorem dC_run_0 : decode cC_run 0 = .ok (.lload_n 1, 1) := by decide +kernel
theorem dC_run_1 : decode cC_run 1 = .ok (.lconst 0, 1) := by decide +kernel
theorem dC_run_2 : decode cC_run 2 = .ok (.lcmp, 1) := by decide +kernel
theorem dC_run_3 : decode cC_run 3 = .ok (.ifCond .lt 11, 3) := by decide +kernel
theorem dC_run_6 : decode cC_run 6 = .ok (.lload_n 1, 1) := by decide +kernel
theorem dC_run_7 : decode cC_run 7 = .ok (.ldc2_w 41, 3) := by decide +kernel
theorem dC_run_10 : decode cC_run 10 = .ok (.lcmp, 1) := by decide +kernel
theorem dC_run_11 : decode cC_run 11 = .ok (.ifCond .le 11, 3) := by decide +kernel
theorem dC_run_14 : decode cC_run 14 = .ok (.new 43, 3) := by decide +kernel
theorem dC_run_17 : decode cC_run 17 = .ok (.dup, 1) := by decide +kernel
theorem dC_run_18 : decode cC_run 18 = .ok (.invokespecial 45, 3) := by decide +kernel
theorem dC_run_21 : decode cC_run 21 = .ok (.athrow, 1) := by decide +kernel
theorem dC_run_22 : decode cC_run 22 = .ok (.lload_n 1, 1) := by decide +kernel
theorem dC_run_23 : decode cC_run 23 = .ok (.ldc2_w 46, 3) := by decide +kernel
theorem dC_run_26 : decode cC_run 26 = .ok (.ldiv, 1) := by decide +kernel
theorem dC_run_27 : decode cC_run 27 = .ok (.lstore_n 3, 1) := by decide +kernel
theorem dC_run_28 : decode cC_run 28 = .ok (.lload_n 3, 1) := by decide +kernel
theorem dC_run_29 : decode cC_run 29 = .ok (.lneg, 1) := by decide +kernel
theorem dC_run_30 : decode cC_run 30 = .ok (.lload_n 3, 1) := by decide +kernel
theorem dC_run_31 : decode cC_run 31 = .ok (.aload_n 0, 1) := by decide +kernel
theorem dC_run_32 : decode cC_run 32 = .ok (.getfield 34, 3) := by decide +kernel
theorem dC_run_35 : decode cC_run 35 = .ok (.invokestatic 48, 3) := by decide +kernel
theorem dC_run_38 : decode cC_run 38 = .ok (.invokestatic 54, 3) := by decide +kernel
theorem dC_run_41 : decode cC_run 41 = .ok (.lstore 5, 2) := by decide +kernel
theorem dC_run_43 : decode cC_run 43 = .ok (.aload_n 0, 1) := by decide +kernel
theorem dC_run_44 : decode cC_run 44 = .ok (.dup, 1) := by decide +kernel
theorem dC_run_45 : decode cC_run 45 = .ok (.getfield 30, 3) := by decide +kernel
theorem dC_run_48 : decode cC_run 48 = .ok (.lload_n 1, 1) := by decide +kernel
theorem dC_run_49 : decode cC_run 49 = .ok (.lload 5, 2) := by decide +kernel
theorem dC_run_51 : decode cC_run 51 = .ok (.ladd, 1) := by decide +kernel
theorem dC_run_52 : decode cC_run 52 = .ok (.ladd, 1) := by decide +kernel
theorem dC_run_53 : decode cC_run 53 = .ok (.putfield 30, 3) := by decide +kernel
theorem dC_run_56 : decode cC_run 56 = .ok (.aload_n 0, 1) := by decide +kernel
theorem dC_run_57 : decode cC_run 57 = .ok (.dup, 1) := by decide +kernel
theorem dC_run_58 : decode cC_run 58 = .ok (.getfield 34, 3) := by decide +kernel
theorem dC_run_61 : decode cC_run 61 = .ok (.lload 5, 2) := by decide +kernel
theorem dC_run_63 : decode cC_run 63 = .ok (.lsub, 1) := by decide +kernel
theorem dC_run_64 : decode cC_run 64 = .ok (.putfield 34, 3) := by decide +kernel
theorem dC_run_67 : decode cC_run 67 = .ok (.return_, 1) := by decide +kernel
theorem dL_put_0 : decode cL_put 0 = .ok (.aload_n 0, 1) := by decide +kernel
theorem dL_put_1 : decode cL_put 1 = .ok (.iload_n 1, 1) := by decide +kernel
theorem dL_put_2 : decode cL_put 2 = .ok (.lload_n 2, 1) := by decide +kernel
theorem dL_put_3 : decode cL_put 3 = .ok (.iload 4, 2) := by decide +kernel
theorem dL_put_5 : decode cL_put 5 = .ok (.invokevirtual 15, 3) := by decide +kernel
theorem dL_put_8 : decode cL_put 8 = .ok (.goto 11, 3) := by decide +kernel
theorem dL_put_11 : decode cL_put 11 = .ok (.astore 5, 2) := by decide +kernel
theorem dL_put_13 : decode cL_put 13 = .ok (.iconst 1, 1) := by decide +kernel
theorem dL_put_14 : decode cL_put 14 = .ok (.ireturn, 1) := by decide +kernel
theorem dL_put_15 : decode cL_put 15 = .ok (.astore 5, 2) := by decide +kernel
theorem dL_put_17 : decode cL_put 17 = .ok (.iconst 2, 1) := by decide +kernel
theorem dL_put_18 : decode cL_put 18 = .ok (.ireturn, 1) := by decide +kernel
theorem dL_put_19 : decode cL_put 19 = .ok (.iconst 0, 1) := by decide +kernel
theorem dL_put_20 : decode cL_put 20 = .ok (.ireturn, 1) := by decide +kernel
theorem dC_put_0 : decode cC_put 0 = .ok (.iload 4, 2) := by decide +kernel
theorem dC_put_2 : decode cC_put 2 = .ok (.iconst 1, 1) := by decide +kernel
theorem dC_put_3 : decode cC_put 3 = .ok (.if_icmp .lt 10, 3) := by decide +kernel
theorem dC_put_6 : decode cC_put 6 = .ok (.iload 4, 2) := by decide +kernel
theorem dC_put_8 : decode cC_put 8 = .ok (.bipush 8, 2) := by decide +kernel
theorem dC_put_10 : decode cC_put 10 = .ok (.if_icmp .le 11, 3) := by decide +kernel
theorem dC_put_13 : decode cC_put 13 = .ok (.new 43, 3) := by decide +kernel
theorem dC_put_16 : decode cC_put 16 = .ok (.dup, 1) := by decide +kernel
theorem dC_put_17 : decode cC_put 17 = .ok (.invokespecial 45, 3) := by decide +kernel
theorem dC_put_20 : decode cC_put 20 = .ok (.athrow, 1) := by decide +kernel
theorem dC_put_21 : decode cC_put 21 = .ok (.iload_n 1, 1) := by decide +kernel
theorem dC_put_22 : decode cC_put 22 = .ok (.ifCond .lt 12, 3) := by decide +kernel
theorem dC_put_25 : decode cC_put 25 = .ok (.iload_n 1, 1) := by decide +kernel
theorem dC_put_26 : decode cC_put 26 = .ok (.bipush 48, 2) := by decide +kernel
theorem dC_put_28 : decode cC_put 28 = .ok (.iload 4, 2) := by decide +kernel
theorem dC_put_30 : decode cC_put 30 = .ok (.isub, 1) := by decide +kernel
theorem dC_put_31 : decode cC_put 31 = .ok (.if_icmp .le 11, 3) := by decide +kernel
theorem dC_put_34 : decode cC_put 34 = .ok (.new 57, 3) := by decide +kernel
theorem dC_put_37 : decode cC_put 37 = .ok (.dup, 1) := by decide +kernel
theorem dC_put_38 : decode cC_put 38 = .ok (.invokespecial 59, 3) := by decide +kernel
theorem dC_put_41 : decode cC_put 41 = .ok (.athrow, 1) := by decide +kernel
theorem dC_put_42 : decode cC_put 42 = .ok (.aload_n 0, 1) := by decide +kernel
theorem dC_put_43 : decode cC_put 43 = .ok (.getfield 10, 3) := by decide +kernel
theorem dC_put_46 : decode cC_put 46 = .ok (.iload_n 1, 1) := by decide +kernel
theorem dC_put_47 : decode cC_put 47 = .ok (.lload_n 2, 1) := by decide +kernel
theorem dC_put_48 : decode cC_put 48 = .ok (.iload 4, 2) := by decide +kernel
theorem dC_put_50 : decode cC_put 50 = .ok (.invokevirtual 60, 3) := by decide +kernel
theorem dC_put_53 : decode cC_put 53 = .ok (.return_, 1) := by decide +kernel
theorem dP_write_0 : decode cP_write 0 = .ok (.iconst 0, 1) := by decide +kernel
theorem dP_write_1 : decode cP_write 1 = .ok (.istore 5, 2) := by decide +kernel
theorem dP_write_3 : decode cP_write 3 = .ok (.iload 5, 2) := by decide +kernel
theorem dP_write_5 : decode cP_write 5 = .ok (.iload 4, 2) := by decide +kernel
theorem dP_write_7 : decode cP_write 7 = .ok (.if_icmp .ge 32, 3) := by decide +kernel
theorem dP_write_10 : decode cP_write 10 = .ok (.aload_n 0, 1) := by decide +kernel
theorem dP_write_11 : decode cP_write 11 = .ok (.getfield 9, 3) := by decide +kernel
theorem dP_write_14 : decode cP_write 14 = .ok (.iload_n 1, 1) := by decide +kernel
theorem dP_write_15 : decode cP_write 15 = .ok (.iload 5, 2) := by decide +kernel
theorem dP_write_17 : decode cP_write 17 = .ok (.iadd, 1) := by decide +kernel
theorem dP_write_18 : decode cP_write 18 = .ok (.lload_n 2, 1) := by decide +kernel
theorem dP_write_19 : decode cP_write 19 = .ok (.bipush 8, 2) := by decide +kernel
theorem dP_write_21 : decode cP_write 21 = .ok (.iload 4, 2) := by decide +kernel
theorem dP_write_23 : decode cP_write 23 = .ok (.iconst 1, 1) := by decide +kernel
theorem dP_write_24 : decode cP_write 24 = .ok (.isub, 1) := by decide +kernel
theorem dP_write_25 : decode cP_write 25 = .ok (.iload 5, 2) := by decide +kernel
theorem dP_write_27 : decode cP_write 27 = .ok (.isub, 1) := by decide +kernel
theorem dP_write_28 : decode cP_write 28 = .ok (.imul, 1) := by decide +kernel
theorem dP_write_29 : decode cP_write 29 = .ok (.lshr, 1) := by decide +kernel
theorem dP_write_30 : decode cP_write 30 = .ok (.l2i, 1) := by decide +kernel
theorem dP_write_31 : decode cP_write 31 = .ok (.i2b, 1) := by decide +kernel
theorem dP_write_32 : decode cP_write 32 = .ok (.bastore, 1) := by decide +kernel
theorem dP_write_33 : decode cP_write 33 = .ok (.iinc 5 1, 3) := by decide +kernel
theorem dP_write_36 : decode cP_write 36 = .ok (.goto (-33), 3) := by decide +kernel
theorem dP_write_39 : decode cP_write 39 = .ok (.return_, 1) := by decide +kernel
theorem dL_echo_0 : decode cL_echo 0 = .ok (.aload_n 0, 1) := by decide +kernel
theorem dL_echo_1 : decode cL_echo 1 = .ok (.iload_n 1, 1) := by decide +kernel
theorem dL_echo_2 : decode cL_echo 2 = .ok (.lload_n 2, 1) := by decide +kernel
theorem dL_echo_3 : decode cL_echo 3 = .ok (.lload 4, 2) := by decide +kernel
theorem dL_echo_5 : decode cL_echo 5 = .ok (.invokevirtual 21, 3) := by decide +kernel
theorem dL_echo_8 : decode cL_echo 8 = .ok (.goto 11, 3) := by decide +kernel
theorem dL_echo_11 : decode cL_echo 11 = .ok (.astore 6, 2) := by decide +kernel
theorem dL_echo_13 : decode cL_echo 13 = .ok (.iconst 1, 1) := by decide +kernel
theorem dL_echo_14 : decode cL_echo 14 = .ok (.ireturn, 1) := by decide +kernel
theorem dL_echo_15 : decode cL_echo 15 = .ok (.astore 6, 2) := by decide +kernel
theorem dL_echo_17 : decode cL_echo 17 = .ok (.iconst 2, 1) := by decide +kernel
theorem dL_echo_18 : decode cL_echo 18 = .ok (.ireturn, 1) := by decide +kernel
theorem dL_echo_19 : decode cL_echo 19 = .ok (.iconst 0, 1) := by decide +kernel
theorem dL_echo_20 : decode cL_echo 20 = .ok (.ireturn, 1) := by decide +kernel
theorem dC_echo_0 : decode cC_echo 0 = .ok (.aload_n 0, 1) := by decide +kernel
theorem dC_echo_1 : decode cC_echo 1 = .ok (.iload_n 1, 1) := by decide +kernel
theorem dC_echo_2 : decode cC_echo 2 = .ok (.invokevirtual 64, 3) := by decide +kernel
theorem dC_echo_5 : decode cC_echo 5 = .ok (.astore 6, 2) := by decide +kernel
theorem dC_echo_7 : decode cC_echo 7 = .ok (.aload 6, 2) := by decide +kernel
theorem dC_echo_9 : decode cC_echo 9 = .ok (.getfield 68, 3) := by decide +kernel
theorem dC_echo_12 : decode cC_echo 12 = .ok (.ifCond .ne 11, 3) := by decide +kernel
theorem dC_echo_15 : decode cC_echo 15 = .ok (.new 71, 3) := by decide +kernel
theorem dC_echo_18 : decode cC_echo 18 = .ok (.dup, 1) := by decide +kernel
theorem dC_echo_19 : decode cC_echo 19 = .ok (.invokespecial 73, 3) := by decide +kernel
theorem dC_echo_22 : decode cC_echo 22 = .ok (.athrow, 1) := by decide +kernel
theorem dC_echo_23 : decode cC_echo 23 = .ok (.aload_n 0, 1) := by decide +kernel
theorem dC_echo_24 : decode cC_echo 24 = .ok (.getfield 10, 3) := by decide +kernel
theorem dC_echo_27 : decode cC_echo 27 = .ok (.iconst 0, 1) := by decide +kernel
theorem dC_echo_28 : decode cC_echo 28 = .ok (.ldc2_w 74, 3) := by decide +kernel
theorem dC_echo_31 : decode cC_echo 31 = .ok (.iconst 1, 1) := by decide +kernel
theorem dC_echo_32 : decode cC_echo 32 = .ok (.invokevirtual 60, 3) := by decide +kernel
theorem dC_echo_35 : decode cC_echo 35 = .ok (.aload_n 0, 1) := by decide +kernel
theorem dC_echo_36 : decode cC_echo 36 = .ok (.getfield 10, 3) := by decide +kernel
theorem dC_echo_39 : decode cC_echo 39 = .ok (.bipush 24, 2) := by decide +kernel
theorem dC_echo_41 : decode cC_echo 41 = .ok (.aload 6, 2) := by decide +kernel
theorem dC_echo_43 : decode cC_echo 43 = .ok (.getfield 76, 3) := by decide +kernel
theorem dC_echo_46 : decode cC_echo 46 = .ok (.bipush 8, 2) := by decide +kernel
theorem dC_echo_48 : decode cC_echo 48 = .ok (.invokevirtual 60, 3) := by decide +kernel
theorem dC_echo_51 : decode cC_echo 51 = .ok (.aload_n 0, 1) := by decide +kernel
theorem dC_echo_52 : decode cC_echo 52 = .ok (.getfield 10, 3) := by decide +kernel
theorem dC_echo_55 : decode cC_echo 55 = .ok (.bipush 32, 2) := by decide +kernel
theorem dC_echo_57 : decode cC_echo 57 = .ok (.aload 6, 2) := by decide +kernel
theorem dC_echo_59 : decode cC_echo 59 = .ok (.getfield 76, 3) := by decide +kernel
theorem dC_echo_62 : decode cC_echo 62 = .ok (.lload_n 2, 1) := by decide +kernel
theorem dC_echo_63 : decode cC_echo 63 = .ok (.ladd, 1) := by decide +kernel
theorem dC_echo_64 : decode cC_echo 64 = .ok (.bipush 8, 2) := by decide +kernel
theorem dC_echo_66 : decode cC_echo 66 = .ok (.invokevirtual 60, 3) := by decide +kernel
theorem dC_echo_69 : decode cC_echo 69 = .ok (.aload_n 0, 1) := by decide +kernel
theorem dC_echo_70 : decode cC_echo 70 = .ok (.getfield 10, 3) := by decide +kernel
theorem dC_echo_73 : decode cC_echo 73 = .ok (.bipush 40, 2) := by decide +kernel
theorem dC_echo_75 : decode cC_echo 75 = .ok (.aload_n 0, 1) := by decide +kernel
theorem dC_echo_76 : decode cC_echo 76 = .ok (.getfield 30, 3) := by decide +kernel
theorem dC_echo_79 : decode cC_echo 79 = .ok (.lload 4, 2) := by decide +kernel
theorem dC_echo_81 : decode cC_echo 81 = .ok (.ladd, 1) := by decide +kernel
theorem dC_echo_82 : decode cC_echo 82 = .ok (.bipush 8, 2) := by decide +kernel
theorem dC_echo_84 : decode cC_echo 84 = .ok (.invokevirtual 60, 3) := by decide +kernel
theorem dC_echo_87 : decode cC_echo 87 = .ok (.return_, 1) := by decide +kernel
theorem dC_serverAt_0 : decode cC_serverAt 0 = .ok (.iload_n 1, 1) := by decide +kernel
theorem dC_serverAt_1 : decode cC_serverAt 1 = .ok (.ifCond .lt 8, 3) := by decide +kernel
theorem dC_serverAt_4 : decode cC_serverAt 4 = .ok (.iload_n 1, 1) := by decide +kernel
theorem dC_serverAt_5 : decode cC_serverAt 5 = .ok (.iconst 5, 1) := by decide +kernel
theorem dC_serverAt_6 : decode cC_serverAt 6 = .ok (.if_icmp .lt 11, 3) := by decide +kernel
theorem dC_serverAt_9 : decode cC_serverAt 9 = .ok (.new 57, 3) := by decide +kernel
theorem dC_serverAt_12 : decode cC_serverAt 12 = .ok (.dup, 1) := by decide +kernel
theorem dC_serverAt_13 : decode cC_serverAt 13 = .ok (.invokespecial 59, 3) := by decide +kernel
theorem dC_serverAt_16 : decode cC_serverAt 16 = .ok (.athrow, 1) := by decide +kernel
theorem dC_serverAt_17 : decode cC_serverAt 17 = .ok (.aload_n 0, 1) := by decide +kernel
theorem dC_serverAt_18 : decode cC_serverAt 18 = .ok (.getfield 18, 3) := by decide +kernel
theorem dC_serverAt_21 : decode cC_serverAt 21 = .ok (.iload_n 1, 1) := by decide +kernel
theorem dC_serverAt_22 : decode cC_serverAt 22 = .ok (.aaload, 1) := by decide +kernel
theorem dC_serverAt_23 : decode cC_serverAt 23 = .ok (.areturn, 1) := by decide +kernel
theorem dL_send_0 : decode cL_send 0 = .ok (.aload_n 2, 1) := by decide +kernel
theorem dL_send_1 : decode cL_send 1 = .ok (.iconst 0, 1) := by decide +kernel
theorem dL_send_2 : decode cL_send 2 = .ok (.aload_n 0, 1) := by decide +kernel
theorem dL_send_3 : decode cL_send 3 = .ok (.iload_n 1, 1) := by decide +kernel
theorem dL_send_4 : decode cL_send 4 = .ok (.invokevirtual 27, 3) := by decide +kernel
theorem dL_send_7 : decode cL_send 7 = .ok (.lastore, 1) := by decide +kernel
theorem dL_send_8 : decode cL_send 8 = .ok (.goto 9, 3) := by decide +kernel
theorem dL_send_11 : decode cL_send 11 = .ok (.astore_n 3, 1) := by decide +kernel
theorem dL_send_12 : decode cL_send 12 = .ok (.iconst 1, 1) := by decide +kernel
theorem dL_send_13 : decode cL_send 13 = .ok (.ireturn, 1) := by decide +kernel
theorem dL_send_14 : decode cL_send 14 = .ok (.astore_n 3, 1) := by decide +kernel
theorem dL_send_15 : decode cL_send 15 = .ok (.iconst 2, 1) := by decide +kernel
theorem dL_send_16 : decode cL_send 16 = .ok (.ireturn, 1) := by decide +kernel
theorem dL_send_17 : decode cL_send 17 = .ok (.iconst 0, 1) := by decide +kernel
theorem dL_send_18 : decode cL_send 18 = .ok (.ireturn, 1) := by decide +kernel
theorem dC_send_0 : decode cC_send 0 = .ok (.aload_n 0, 1) := by decide +kernel
theorem dC_send_1 : decode cC_send 1 = .ok (.iload_n 1, 1) := by decide +kernel
theorem dC_send_2 : decode cC_send 2 = .ok (.invokevirtual 64, 3) := by decide +kernel
theorem dC_send_5 : decode cC_send 5 = .ok (.astore_n 2, 1) := by decide +kernel
theorem dC_send_6 : decode cC_send 6 = .ok (.aload_n 2, 1) := by decide +kernel
theorem dC_send_7 : decode cC_send 7 = .ok (.getfield 79, 3) := by decide +kernel
theorem dC_send_10 : decode cC_send 10 = .ok (.ifCond .eq 11, 3) := by decide +kernel
theorem dC_send_13 : decode cC_send 13 = .ok (.new 71, 3) := by decide +kernel
theorem dC_send_16 : decode cC_send 16 = .ok (.dup, 1) := by decide +kernel
theorem dC_send_17 : decode cC_send 17 = .ok (.invokespecial 73, 3) := by decide +kernel
theorem dC_send_20 : decode cC_send 20 = .ok (.athrow, 1) := by decide +kernel
theorem dC_send_21 : decode cC_send 21 = .ok (.aload_n 2, 1) := by decide +kernel
theorem dC_send_22 : decode cC_send 22 = .ok (.aload_n 0, 1) := by decide +kernel
theorem dC_send_23 : decode cC_send 23 = .ok (.getfield 30, 3) := by decide +kernel
theorem dC_send_26 : decode cC_send 26 = .ok (.invokevirtual 82, 3) := by decide +kernel
theorem dC_send_29 : decode cC_send 29 = .ok (.aload_n 0, 1) := by decide +kernel
theorem dC_send_30 : decode cC_send 30 = .ok (.getfield 30, 3) := by decide +kernel
theorem dC_send_33 : decode cC_send 33 = .ok (.lreturn, 1) := by decide +kernel
theorem dS_expect_0 : decode cS_expect 0 = .ok (.aload_n 0, 1) := by decide +kernel
theorem dS_expect_1 : decode cS_expect 1 = .ok (.aload_n 0, 1) := by decide +kernel
theorem dS_expect_2 : decode cS_expect 2 = .ok (.getfield 13, 3) := by decide +kernel
theorem dS_expect_5 : decode cS_expect 5 = .ok (.iconst 2, 1) := by decide +kernel
theorem dS_expect_6 : decode cS_expect 6 = .ok (.imul, 1) := by decide +kernel
theorem dS_expect_7 : decode cS_expect 7 = .ok (.sipush 256, 3) := by decide +kernel
theorem dS_expect_10 : decode cS_expect 10 = .ok (.irem, 1) := by decide +kernel
theorem dS_expect_11 : decode cS_expect 11 = .ok (.putfield 13, 3) := by decide +kernel
theorem dS_expect_14 : decode cS_expect 14 = .ok (.aload_n 0, 1) := by decide +kernel
theorem dS_expect_15 : decode cS_expect 15 = .ok (.iconst 1, 1) := by decide +kernel
theorem dS_expect_16 : decode cS_expect 16 = .ok (.putfield 20, 3) := by decide +kernel
theorem dS_expect_19 : decode cS_expect 19 = .ok (.aload_n 0, 1) := by decide +kernel
theorem dS_expect_20 : decode cS_expect 20 = .ok (.lload_n 1, 1) := by decide +kernel
theorem dS_expect_21 : decode cS_expect 21 = .ok (.putfield 23, 3) := by decide +kernel
theorem dS_expect_24 : decode cS_expect 24 = .ok (.return_, 1) := by decide +kernel
theorem dL_receive_0 : decode cL_receive 0 = .ok (.aload_n 2, 1) := by decide +kernel
theorem dL_receive_1 : decode cL_receive 1 = .ok (.iconst 0, 1) := by decide +kernel
theorem dL_receive_2 : decode cL_receive 2 = .ok (.aload_n 0, 1) := by decide +kernel
theorem dL_receive_3 : decode cL_receive 3 = .ok (.iload_n 1, 1) := by decide +kernel
theorem dL_receive_4 : decode cL_receive 4 = .ok (.invokevirtual 31, 3) := by decide +kernel
theorem dL_receive_7 : decode cL_receive 7 = .ok (.i2l, 1) := by decide +kernel
theorem dL_receive_8 : decode cL_receive 8 = .ok (.lastore, 1) := by decide +kernel
theorem dL_receive_9 : decode cL_receive 9 = .ok (.goto 12, 3) := by decide +kernel
theorem dL_receive_12 : decode cL_receive 12 = .ok (.astore_n 3, 1) := by decide +kernel
theorem dL_receive_13 : decode cL_receive 13 = .ok (.iconst 1, 1) := by decide +kernel
theorem dL_receive_14 : decode cL_receive 14 = .ok (.ireturn, 1) := by decide +kernel
theorem dL_receive_15 : decode cL_receive 15 = .ok (.astore_n 3, 1) := by decide +kernel
theorem dL_receive_16 : decode cL_receive 16 = .ok (.iconst 2, 1) := by decide +kernel
theorem dL_receive_17 : decode cL_receive 17 = .ok (.ireturn, 1) := by decide +kernel
theorem dL_receive_18 : decode cL_receive 18 = .ok (.astore_n 3, 1) := by decide +kernel
theorem dL_receive_19 : decode cL_receive 19 = .ok (.iconst 3, 1) := by decide +kernel
theorem dL_receive_20 : decode cL_receive 20 = .ok (.ireturn, 1) := by decide +kernel
theorem dL_receive_21 : decode cL_receive 21 = .ok (.iconst 0, 1) := by decide +kernel
theorem dL_receive_22 : decode cL_receive 22 = .ok (.ireturn, 1) := by decide +kernel
theorem dC_receive_0 : decode cC_receive 0 = .ok (.aload_n 0, 1) := by decide +kernel
theorem dC_receive_1 : decode cC_receive 1 = .ok (.iload_n 1, 1) := by decide +kernel
theorem dC_receive_2 : decode cC_receive 2 = .ok (.invokevirtual 64, 3) := by decide +kernel
theorem dC_receive_5 : decode cC_receive 5 = .ok (.astore_n 2, 1) := by decide +kernel
theorem dC_receive_6 : decode cC_receive 6 = .ok (.aload_n 0, 1) := by decide +kernel
theorem dC_receive_7 : decode cC_receive 7 = .ok (.getfield 10, 3) := by decide +kernel
theorem dC_receive_10 : decode cC_receive 10 = .ok (.invokevirtual 86, 3) := by decide +kernel
theorem dC_receive_13 : decode cC_receive 13 = .ok (.ifCond .ne 11, 3) := by decide +kernel
theorem dC_receive_16 : decode cC_receive 16 = .ok (.new 43, 3) := by decide +kernel
theorem dC_receive_19 : decode cC_receive 19 = .ok (.dup, 1) := by decide +kernel
theorem dC_receive_20 : decode cC_receive 20 = .ok (.invokespecial 45, 3) := by decide +kernel
theorem dC_receive_23 : decode cC_receive 23 = .ok (.athrow, 1) := by decide +kernel
theorem dC_receive_24 : decode cC_receive 24 = .ok (.aload_n 2, 1) := by decide +kernel
theorem dC_receive_25 : decode cC_receive 25 = .ok (.getfield 79, 3) := by decide +kernel
theorem dC_receive_28 : decode cC_receive 28 = .ok (.ifCond .ne 29, 3) := by decide +kernel
theorem dC_receive_31 : decode cC_receive 31 = .ok (.aload_n 2, 1) := by decide +kernel
theorem dC_receive_32 : decode cC_receive 32 = .ok (.getfield 68, 3) := by decide +kernel
theorem dC_receive_35 : decode cC_receive 35 = .ok (.ifCond .eq 22, 3) := by decide +kernel
theorem dC_receive_38 : decode cC_receive 38 = .ok (.aload_n 2, 1) := by decide +kernel
theorem dC_receive_39 : decode cC_receive 39 = .ok (.getfield 76, 3) := by decide +kernel
theorem dC_receive_42 : decode cC_receive 42 = .ok (.aload_n 0, 1) := by decide +kernel
theorem dC_receive_43 : decode cC_receive 43 = .ok (.getfield 10, 3) := by decide +kernel
theorem dC_receive_46 : decode cC_receive 46 = .ok (.bipush 24, 2) := by decide +kernel
theorem dC_receive_48 : decode cC_receive 48 = .ok (.bipush 8, 2) := by decide +kernel
theorem dC_receive_50 : decode cC_receive 50 = .ok (.invokevirtual 90, 3) := by decide +kernel
theorem dC_receive_53 : decode cC_receive 53 = .ok (.lcmp, 1) := by decide +kernel
theorem dC_receive_54 : decode cC_receive 54 = .ok (.ifCond .eq 11, 3) := by decide +kernel
theorem dC_receive_57 : decode cC_receive 57 = .ok (.new 71, 3) := by decide +kernel
theorem dC_receive_60 : decode cC_receive 60 = .ok (.dup, 1) := by decide +kernel
theorem dC_receive_61 : decode cC_receive 61 = .ok (.invokespecial 73, 3) := by decide +kernel
theorem dC_receive_64 : decode cC_receive 64 = .ok (.athrow, 1) := by decide +kernel
theorem dC_receive_65 : decode cC_receive 65 = .ok (.aload_n 2, 1) := by decide +kernel
theorem dC_receive_66 : decode cC_receive 66 = .ok (.iconst 0, 1) := by decide +kernel
theorem dC_receive_67 : decode cC_receive 67 = .ok (.putfield 68, 3) := by decide +kernel
theorem dC_receive_70 : decode cC_receive 70 = .ok (.aload_n 0, 1) := by decide +kernel
theorem dC_receive_71 : decode cC_receive 71 = .ok (.getfield 10, 3) := by decide +kernel
theorem dC_receive_74 : decode cC_receive 74 = .ok (.invokevirtual 94, 3) := by decide +kernel
theorem dC_receive_77 : decode cC_receive 77 = .ok (.ifCond .ne 19, 3) := by decide +kernel
theorem dC_receive_80 : decode cC_receive 80 = .ok (.aload_n 2, 1) := by decide +kernel
theorem dC_receive_81 : decode cC_receive 81 = .ok (.aload_n 0, 1) := by decide +kernel
theorem dC_receive_82 : decode cC_receive 82 = .ok (.getfield 10, 3) := by decide +kernel
theorem dC_receive_85 : decode cC_receive 85 = .ok (.bipush 12, 2) := by decide +kernel
theorem dC_receive_87 : decode cC_receive 87 = .ok (.iconst 4, 1) := by decide +kernel
theorem dC_receive_88 : decode cC_receive 88 = .ok (.invokevirtual 90, 3) := by decide +kernel
theorem dC_receive_91 : decode cC_receive 91 = .ok (.invokevirtual 98, 3) := by decide +kernel
theorem dC_receive_94 : decode cC_receive 94 = .ok (.iconst 2, 1) := by decide +kernel
theorem dC_receive_95 : decode cC_receive 95 = .ok (.ireturn, 1) := by decide +kernel
theorem dC_receive_96 : decode cC_receive 96 = .ok (.aload_n 0, 1) := by decide +kernel
theorem dC_receive_97 : decode cC_receive 97 = .ok (.getfield 10, 3) := by decide +kernel
theorem dC_receive_100 : decode cC_receive 100 = .ok (.invokevirtual 101, 3) := by decide +kernel
theorem dC_receive_103 : decode cC_receive 103 = .ok (.ifCond .ne 5, 3) := by decide +kernel
theorem dC_receive_106 : decode cC_receive 106 = .ok (.iconst 1, 1) := by decide +kernel
theorem dC_receive_107 : decode cC_receive 107 = .ok (.ireturn, 1) := by decide +kernel
theorem dC_receive_108 : decode cC_receive 108 = .ok (.aload_n 0, 1) := by decide +kernel
theorem dC_receive_109 : decode cC_receive 109 = .ok (.aload_n 2, 1) := by decide +kernel
theorem dC_receive_110 : decode cC_receive 110 = .ok (.invokevirtual 104, 3) := by decide +kernel
theorem dC_receive_113 : decode cC_receive 113 = .ok (.ireturn, 1) := by decide +kernel
theorem dP_isAnswer_0 : decode cP_isAnswer 0 = .ok (.aload_n 0, 1) := by decide +kernel
theorem dP_isAnswer_1 : decode cP_isAnswer 1 = .ok (.getfield 9, 3) := by decide +kernel
theorem dP_isAnswer_4 : decode cP_isAnswer 4 = .ok (.iconst 0, 1) := by decide +kernel
theorem dP_isAnswer_5 : decode cP_isAnswer 5 = .ok (.baload, 1) := by decide +kernel
theorem dP_isAnswer_6 : decode cP_isAnswer 6 = .ok (.sipush 255, 3) := by decide +kernel
theorem dP_isAnswer_9 : decode cP_isAnswer 9 = .ok (.iand, 1) := by decide +kernel
theorem dP_isAnswer_10 : decode cP_isAnswer 10 = .ok (.istore_n 1, 1) := by decide +kernel
theorem dP_isAnswer_11 : decode cP_isAnswer 11 = .ok (.iload_n 1, 1) := by decide +kernel
theorem dP_isAnswer_12 : decode cP_isAnswer 12 = .ok (.iconst 3, 1) := by decide +kernel
theorem dP_isAnswer_13 : decode cP_isAnswer 13 = .ok (.ishr, 1) := by decide +kernel
theorem dP_isAnswer_14 : decode cP_isAnswer 14 = .ok (.bipush 7, 2) := by decide +kernel
theorem dP_isAnswer_16 : decode cP_isAnswer 16 = .ok (.iand, 1) := by decide +kernel
theorem dP_isAnswer_17 : decode cP_isAnswer 17 = .ok (.iconst 4, 1) := by decide +kernel
theorem dP_isAnswer_18 : decode cP_isAnswer 18 = .ok (.if_icmp .ne 28, 3) := by decide +kernel
theorem dP_isAnswer_21 : decode cP_isAnswer 21 = .ok (.iload_n 1, 1) := by decide +kernel
theorem dP_isAnswer_22 : decode cP_isAnswer 22 = .ok (.bipush 7, 2) := by decide +kernel
theorem dP_isAnswer_24 : decode cP_isAnswer 24 = .ok (.iand, 1) := by decide +kernel
theorem dP_isAnswer_25 : decode cP_isAnswer 25 = .ok (.iconst 4, 1) := by decide +kernel
theorem dP_isAnswer_26 : decode cP_isAnswer 26 = .ok (.if_icmp .ne 20, 3) := by decide +kernel
theorem dP_isAnswer_29 : decode cP_isAnswer 29 = .ok (.aload_n 0, 1) := by decide +kernel
theorem dP_isAnswer_30 : decode cP_isAnswer 30 = .ok (.bipush 40, 2) := by decide +kernel
theorem dP_isAnswer_32 : decode cP_isAnswer 32 = .ok (.bipush 8, 2) := by decide +kernel
theorem dP_isAnswer_34 : decode cP_isAnswer 34 = .ok (.invokevirtual 13, 3) := by decide +kernel
theorem dP_isAnswer_37 : decode cP_isAnswer 37 = .ok (.lconst 0, 1) := by decide +kernel
theorem dP_isAnswer_38 : decode cP_isAnswer 38 = .ok (.lcmp, 1) := by decide +kernel
theorem dP_isAnswer_39 : decode cP_isAnswer 39 = .ok (.ifCond .eq 7, 3) := by decide +kernel
theorem dP_isAnswer_42 : decode cP_isAnswer 42 = .ok (.iconst 1, 1) := by decide +kernel
theorem dP_isAnswer_43 : decode cP_isAnswer 43 = .ok (.goto 4, 3) := by decide +kernel
theorem dP_isAnswer_46 : decode cP_isAnswer 46 = .ok (.iconst 0, 1) := by decide +kernel
theorem dP_isAnswer_47 : decode cP_isAnswer 47 = .ok (.ireturn, 1) := by decide +kernel
theorem dP_read_0 : decode cP_read 0 = .ok (.lconst 0, 1) := by decide +kernel
theorem dP_read_1 : decode cP_read 1 = .ok (.lstore_n 3, 1) := by decide +kernel
theorem dP_read_2 : decode cP_read 2 = .ok (.iconst 0, 1) := by decide +kernel
theorem dP_read_3 : decode cP_read 3 = .ok (.istore 5, 2) := by decide +kernel
theorem dP_read_5 : decode cP_read 5 = .ok (.iload 5, 2) := by decide +kernel
theorem dP_read_7 : decode cP_read 7 = .ok (.iload_n 2, 1) := by decide +kernel
theorem dP_read_8 : decode cP_read 8 = .ok (.if_icmp .ge 29, 3) := by decide +kernel
theorem dP_read_11 : decode cP_read 11 = .ok (.lload_n 3, 1) := by decide +kernel
theorem dP_read_12 : decode cP_read 12 = .ok (.bipush 8, 2) := by decide +kernel
theorem dP_read_14 : decode cP_read 14 = .ok (.lshl, 1) := by decide +kernel
theorem dP_read_15 : decode cP_read 15 = .ok (.aload_n 0, 1) := by decide +kernel
theorem dP_read_16 : decode cP_read 16 = .ok (.getfield 9, 3) := by decide +kernel
theorem dP_read_19 : decode cP_read 19 = .ok (.iload_n 1, 1) := by decide +kernel
theorem dP_read_20 : decode cP_read 20 = .ok (.iload 5, 2) := by decide +kernel
theorem dP_read_22 : decode cP_read 22 = .ok (.iadd, 1) := by decide +kernel
theorem dP_read_23 : decode cP_read 23 = .ok (.baload, 1) := by decide +kernel
theorem dP_read_24 : decode cP_read 24 = .ok (.sipush 255, 3) := by decide +kernel
theorem dP_read_27 : decode cP_read 27 = .ok (.iand, 1) := by decide +kernel
theorem dP_read_28 : decode cP_read 28 = .ok (.i2l, 1) := by decide +kernel
theorem dP_read_29 : decode cP_read 29 = .ok (.lor, 1) := by decide +kernel
theorem dP_read_30 : decode cP_read 30 = .ok (.lstore_n 3, 1) := by decide +kernel
theorem dP_read_31 : decode cP_read 31 = .ok (.iinc 5 1, 3) := by decide +kernel
theorem dP_read_34 : decode cP_read 34 = .ok (.goto (-29), 3) := by decide +kernel
theorem dP_read_37 : decode cP_read 37 = .ok (.lload_n 3, 1) := by decide +kernel
theorem dP_read_38 : decode cP_read 38 = .ok (.lreturn, 1) := by decide +kernel
theorem dP_stratum_0 : decode cP_stratum 0 = .ok (.aload_n 0, 1) := by decide +kernel
theorem dP_stratum_1 : decode cP_stratum 1 = .ok (.getfield 9, 3) := by decide +kernel
theorem dP_stratum_4 : decode cP_stratum 4 = .ok (.iconst 1, 1) := by decide +kernel
theorem dP_stratum_5 : decode cP_stratum 5 = .ok (.baload, 1) := by decide +kernel
theorem dP_stratum_6 : decode cP_stratum 6 = .ok (.sipush 255, 3) := by decide +kernel
theorem dP_stratum_9 : decode cP_stratum 9 = .ok (.iand, 1) := by decide +kernel
theorem dP_stratum_10 : decode cP_stratum 10 = .ok (.ireturn, 1) := by decide +kernel
theorem dS_obey_0 : decode cS_obey 0 = .ok (.lload_n 1, 1) := by decide +kernel
theorem dS_obey_1 : decode cS_obey 1 = .ok (.ldc2_w 49, 3) := by decide +kernel
theorem dS_obey_4 : decode cS_obey 4 = .ok (.lcmp, 1) := by decide +kernel
theorem dS_obey_5 : decode cS_obey 5 = .ok (.ifCond .eq 11, 3) := by decide +kernel
theorem dS_obey_8 : decode cS_obey 8 = .ok (.lload_n 1, 1) := by decide +kernel
theorem dS_obey_9 : decode cS_obey 9 = .ok (.ldc2_w 51, 3) := by decide +kernel
theorem dS_obey_12 : decode cS_obey 12 = .ok (.lcmp, 1) := by decide +kernel
theorem dS_obey_13 : decode cS_obey 13 = .ok (.ifCond .ne 11, 3) := by decide +kernel
theorem dS_obey_16 : decode cS_obey 16 = .ok (.aload_n 0, 1) := by decide +kernel
theorem dS_obey_17 : decode cS_obey 17 = .ok (.iconst 1, 1) := by decide +kernel
theorem dS_obey_18 : decode cS_obey 18 = .ok (.putfield 7, 3) := by decide +kernel
theorem dS_obey_21 : decode cS_obey 21 = .ok (.goto 15, 3) := by decide +kernel
theorem dS_obey_24 : decode cS_obey 24 = .ok (.lload_n 1, 1) := by decide +kernel
theorem dS_obey_25 : decode cS_obey 25 = .ok (.ldc2_w 53, 3) := by decide +kernel
theorem dS_obey_28 : decode cS_obey 28 = .ok (.lcmp, 1) := by decide +kernel
theorem dS_obey_29 : decode cS_obey 29 = .ok (.ifCond .ne 7, 3) := by decide +kernel
theorem dS_obey_32 : decode cS_obey 32 = .ok (.aload_n 0, 1) := by decide +kernel
theorem dS_obey_33 : decode cS_obey 33 = .ok (.invokevirtual 55, 3) := by decide +kernel
theorem dS_obey_36 : decode cS_obey 36 = .ok (.return_, 1) := by decide +kernel
theorem dS_pollLater_0 : decode cS_pollLater 0 = .ok (.aload_n 0, 1) := by decide +kernel
theorem dS_pollLater_1 : decode cS_pollLater 1 = .ok (.bipush 10, 2) := by decide +kernel
theorem dS_pollLater_3 : decode cS_pollLater 3 = .ok (.aload_n 0, 1) := by decide +kernel
theorem dS_pollLater_4 : decode cS_pollLater 4 = .ok (.getfield 17, 3) := by decide +kernel
theorem dS_pollLater_7 : decode cS_pollLater 7 = .ok (.iconst 1, 1) := by decide +kernel
theorem dS_pollLater_8 : decode cS_pollLater 8 = .ok (.iadd, 1) := by decide +kernel
theorem dS_pollLater_9 : decode cS_pollLater 9 = .ok (.invokestatic 58, 3) := by decide +kernel
theorem dS_pollLater_12 : decode cS_pollLater 12 = .ok (.putfield 17, 3) := by decide +kernel
theorem dS_pollLater_15 : decode cS_pollLater 15 = .ok (.return_, 1) := by decide +kernel
theorem dJ_min_7cf5_0 : decode cJ_min_7cf5 0 = .ok (.iload_n 0, 1) := by decide +kernel
theorem dJ_min_7cf5_1 : decode cJ_min_7cf5 1 = .ok (.iload_n 1, 1) := by decide +kernel
theorem dJ_min_7cf5_2 : decode cJ_min_7cf5 2 = .ok (.if_icmp .gt 7, 3) := by decide +kernel
theorem dJ_min_7cf5_5 : decode cJ_min_7cf5 5 = .ok (.iload_n 0, 1) := by decide +kernel
theorem dJ_min_7cf5_6 : decode cJ_min_7cf5 6 = .ok (.goto 4, 3) := by decide +kernel
theorem dJ_min_7cf5_9 : decode cJ_min_7cf5 9 = .ok (.iload_n 1, 1) := by decide +kernel
theorem dJ_min_7cf5_10 : decode cJ_min_7cf5 10 = .ok (.ireturn, 1) := by decide +kernel
theorem dP_isSynchronized_0 : decode cP_isSynchronized 0 = .ok (.aload_n 0, 1) := by decide +kernel
theorem dP_isSynchronized_1 : decode cP_isSynchronized 1 = .ok (.getfield 9, 3) := by decide +kernel
theorem dP_isSynchronized_4 : decode cP_isSynchronized 4 = .ok (.iconst 0, 1) := by decide +kernel
theorem dP_isSynchronized_5 : decode cP_isSynchronized 5 = .ok (.baload, 1) := by decide +kernel
theorem dP_isSynchronized_6 : decode cP_isSynchronized 6 = .ok (.sipush 255, 3) := by decide +kernel
theorem dP_isSynchronized_9 : decode cP_isSynchronized 9 = .ok (.iand, 1) := by decide +kernel
theorem dP_isSynchronized_10 : decode cP_isSynchronized 10 = .ok (.bipush 6, 2) := by decide +kernel
theorem dP_isSynchronized_12 : decode cP_isSynchronized 12 = .ok (.ishr, 1) := by decide +kernel
theorem dP_isSynchronized_13 : decode cP_isSynchronized 13 = .ok (.iconst 3, 1) := by decide +kernel
theorem dP_isSynchronized_14 : decode cP_isSynchronized 14 = .ok (.if_icmp .eq 16, 3) := by decide +kernel
theorem dP_isSynchronized_17 : decode cP_isSynchronized 17 = .ok (.aload_n 0, 1) := by decide +kernel
theorem dP_isSynchronized_18 : decode cP_isSynchronized 18 = .ok (.invokevirtual 17, 3) := by decide +kernel
theorem dP_isSynchronized_21 : decode cP_isSynchronized 21 = .ok (.bipush 15, 2) := by decide +kernel
theorem dP_isSynchronized_23 : decode cP_isSynchronized 23 = .ok (.if_icmp .gt 7, 3) := by decide +kernel
theorem dP_isSynchronized_26 : decode cP_isSynchronized 26 = .ok (.iconst 1, 1) := by decide +kernel
theorem dP_isSynchronized_27 : decode cP_isSynchronized 27 = .ok (.goto 4, 3) := by decide +kernel
theorem dP_isSynchronized_30 : decode cP_isSynchronized 30 = .ok (.iconst 0, 1) := by decide +kernel
theorem dP_isSynchronized_31 : decode cP_isSynchronized 31 = .ok (.ireturn, 1) := by decide +kernel
theorem dC_takeTimes_0 : decode cC_takeTimes 0 = .ok (.aload_n 1, 1) := by decide +kernel
theorem dC_takeTimes_1 : decode cC_takeTimes 1 = .ok (.getfield 76, 3) := by decide +kernel
theorem dC_takeTimes_4 : decode cC_takeTimes 4 = .ok (.lstore_n 2, 1) := by decide +kernel
theorem dC_takeTimes_5 : decode cC_takeTimes 5 = .ok (.aload_n 0, 1) := by decide +kernel
theorem dC_takeTimes_6 : decode cC_takeTimes 6 = .ok (.getfield 10, 3) := by decide +kernel
theorem dC_takeTimes_9 : decode cC_takeTimes 9 = .ok (.bipush 32, 2) := by decide +kernel
theorem dC_takeTimes_11 : decode cC_takeTimes 11 = .ok (.bipush 8, 2) := by decide +kernel
theorem dC_takeTimes_13 : decode cC_takeTimes 13 = .ok (.invokevirtual 90, 3) := by decide +kernel
theorem dC_takeTimes_16 : decode cC_takeTimes 16 = .ok (.lstore 4, 2) := by decide +kernel
theorem dC_takeTimes_18 : decode cC_takeTimes 18 = .ok (.aload_n 0, 1) := by decide +kernel
theorem dC_takeTimes_19 : decode cC_takeTimes 19 = .ok (.getfield 10, 3) := by decide +kernel
theorem dC_takeTimes_22 : decode cC_takeTimes 22 = .ok (.bipush 40, 2) := by decide +kernel
theorem dC_takeTimes_24 : decode cC_takeTimes 24 = .ok (.bipush 8, 2) := by decide +kernel
theorem dC_takeTimes_26 : decode cC_takeTimes 26 = .ok (.invokevirtual 90, 3) := by decide +kernel
theorem dC_takeTimes_29 : decode cC_takeTimes 29 = .ok (.lstore 6, 2) := by decide +kernel
theorem dC_takeTimes_31 : decode cC_takeTimes 31 = .ok (.aload_n 0, 1) := by decide +kernel
theorem dC_takeTimes_32 : decode cC_takeTimes 32 = .ok (.getfield 30, 3) := by decide +kernel
theorem dC_takeTimes_35 : decode cC_takeTimes 35 = .ok (.lstore 8, 2) := by decide +kernel
theorem dC_takeTimes_37 : decode cC_takeTimes 37 = .ok (.lload 4, 2) := by decide +kernel
theorem dC_takeTimes_39 : decode cC_takeTimes 39 = .ok (.lload_n 2, 1) := by decide +kernel
theorem dC_takeTimes_40 : decode cC_takeTimes 40 = .ok (.lsub, 1) := by decide +kernel
theorem dC_takeTimes_41 : decode cC_takeTimes 41 = .ok (.lload 6, 2) := by decide +kernel
theorem dC_takeTimes_43 : decode cC_takeTimes 43 = .ok (.lload 8, 2) := by decide +kernel
theorem dC_takeTimes_45 : decode cC_takeTimes 45 = .ok (.lsub, 1) := by decide +kernel
theorem dC_takeTimes_46 : decode cC_takeTimes 46 = .ok (.invokestatic 183, 3) := by decide +kernel
theorem dC_takeTimes_49 : decode cC_takeTimes 49 = .ok (.lstore 10, 2) := by decide +kernel
theorem dC_takeTimes_51 : decode cC_takeTimes 51 = .ok (.ldc2_w 186, 3) := by decide +kernel
theorem dC_takeTimes_54 : decode cC_takeTimes 54 = .ok (.lload 8, 2) := by decide +kernel
theorem dC_takeTimes_56 : decode cC_takeTimes 56 = .ok (.lload_n 2, 1) := by decide +kernel
theorem dC_takeTimes_57 : decode cC_takeTimes 57 = .ok (.lsub, 1) := by decide +kernel
theorem dC_takeTimes_58 : decode cC_takeTimes 58 = .ok (.lload 6, 2) := by decide +kernel
theorem dC_takeTimes_60 : decode cC_takeTimes 60 = .ok (.lload 4, 2) := by decide +kernel
theorem dC_takeTimes_62 : decode cC_takeTimes 62 = .ok (.lsub, 1) := by decide +kernel
theorem dC_takeTimes_63 : decode cC_takeTimes 63 = .ok (.lsub, 1) := by decide +kernel
theorem dC_takeTimes_64 : decode cC_takeTimes 64 = .ok (.invokestatic 54, 3) := by decide +kernel
theorem dC_takeTimes_67 : decode cC_takeTimes 67 = .ok (.lstore 12, 2) := by decide +kernel
theorem dC_takeTimes_69 : decode cC_takeTimes 69 = .ok (.lload 10, 2) := by decide +kernel
theorem dC_takeTimes_71 : decode cC_takeTimes 71 = .ok (.ldc2_w 188, 3) := by decide +kernel
theorem dC_takeTimes_74 : decode cC_takeTimes 74 = .ok (.lcmp, 1) := by decide +kernel
theorem dC_takeTimes_75 : decode cC_takeTimes 75 = .ok (.ifCond .lt 21, 3) := by decide +kernel
theorem dC_takeTimes_78 : decode cC_takeTimes 78 = .ok (.lload 10, 2) := by decide +kernel
theorem dC_takeTimes_80 : decode cC_takeTimes 80 = .ok (.ldc2_w 190, 3) := by decide +kernel
theorem dC_takeTimes_83 : decode cC_takeTimes 83 = .ok (.lcmp, 1) := by decide +kernel
theorem dC_takeTimes_84 : decode cC_takeTimes 84 = .ok (.ifCond .gt 12, 3) := by decide +kernel
theorem dC_takeTimes_87 : decode cC_takeTimes 87 = .ok (.lload 12, 2) := by decide +kernel
theorem dC_takeTimes_89 : decode cC_takeTimes 89 = .ok (.ldc2_w 190, 3) := by decide +kernel
theorem dC_takeTimes_92 : decode cC_takeTimes 92 = .ok (.lcmp, 1) := by decide +kernel
theorem dC_takeTimes_93 : decode cC_takeTimes 93 = .ok (.ifCond .le 5, 3) := by decide +kernel
theorem dC_takeTimes_96 : decode cC_takeTimes 96 = .ok (.iconst 3, 1) := by decide +kernel
theorem dC_takeTimes_97 : decode cC_takeTimes 97 = .ok (.ireturn, 1) := by decide +kernel
theorem dC_takeTimes_98 : decode cC_takeTimes 98 = .ok (.aload_n 1, 1) := by decide +kernel
theorem dC_takeTimes_99 : decode cC_takeTimes 99 = .ok (.aload_n 0, 1) := by decide +kernel
theorem dC_takeTimes_100 : decode cC_takeTimes 100 = .ok (.getfield 10, 3) := by decide +kernel
theorem dC_takeTimes_103 : decode cC_takeTimes 103 = .ok (.invokevirtual 94, 3) := by decide +kernel
theorem dC_takeTimes_106 : decode cC_takeTimes 106 = .ok (.aload_n 0, 1) := by decide +kernel
theorem dC_takeTimes_107 : decode cC_takeTimes 107 = .ok (.getfield 10, 3) := by decide +kernel
theorem dC_takeTimes_110 : decode cC_takeTimes 110 = .ok (.invokevirtual 192, 3) := by decide +kernel
theorem dC_takeTimes_113 : decode cC_takeTimes 113 = .ok (.aload_n 0, 1) := by decide +kernel
theorem dC_takeTimes_114 : decode cC_takeTimes 114 = .ok (.getfield 10, 3) := by decide +kernel
theorem dC_takeTimes_117 : decode cC_takeTimes 117 = .ok (.invokevirtual 195, 3) := by decide +kernel
theorem dC_takeTimes_120 : decode cC_takeTimes 120 = .ok (.invokevirtual 198, 3) := by decide +kernel
theorem dC_takeTimes_123 : decode cC_takeTimes 123 = .ok (.aload_n 1, 1) := by decide +kernel
theorem dC_takeTimes_124 : decode cC_takeTimes 124 = .ok (.lload 10, 2) := by decide +kernel
theorem dC_takeTimes_126 : decode cC_takeTimes 126 = .ok (.lload 12, 2) := by decide +kernel
theorem dC_takeTimes_128 : decode cC_takeTimes 128 = .ok (.lload 8, 2) := by decide +kernel
theorem dC_takeTimes_130 : decode cC_takeTimes 130 = .ok (.invokevirtual 202, 3) := by decide +kernel
theorem dC_takeTimes_133 : decode cC_takeTimes 133 = .ok (.iconst 0, 1) := by decide +kernel
theorem dC_takeTimes_134 : decode cC_takeTimes 134 = .ok (.ireturn, 1) := by decide +kernel
theorem dC_halfOfSum_0 : decode cC_halfOfSum 0 = .ok (.lload_n 0, 1) := by decide +kernel
theorem dC_halfOfSum_1 : decode cC_halfOfSum 1 = .ok (.lload_n 2, 1) := by decide +kernel
theorem dC_halfOfSum_2 : decode cC_halfOfSum 2 = .ok (.land, 1) := by decide +kernel
theorem dC_halfOfSum_3 : decode cC_halfOfSum 3 = .ok (.lload_n 0, 1) := by decide +kernel
theorem dC_halfOfSum_4 : decode cC_halfOfSum 4 = .ok (.lload_n 2, 1) := by decide +kernel
theorem dC_halfOfSum_5 : decode cC_halfOfSum 5 = .ok (.lxor, 1) := by decide +kernel
theorem dC_halfOfSum_6 : decode cC_halfOfSum 6 = .ok (.iconst 1, 1) := by decide +kernel
theorem dC_halfOfSum_7 : decode cC_halfOfSum 7 = .ok (.lshr, 1) := by decide +kernel
theorem dC_halfOfSum_8 : decode cC_halfOfSum 8 = .ok (.ladd, 1) := by decide +kernel
theorem dC_halfOfSum_9 : decode cC_halfOfSum 9 = .ok (.lreturn, 1) := by decide +kernel
theorem dP_rootDelay_0 : decode cP_rootDelay 0 = .ok (.aload_n 0, 1) := by decide +kernel
theorem dP_rootDelay_1 : decode cP_rootDelay 1 = .ok (.iconst 4, 1) := by decide +kernel
theorem dP_rootDelay_2 : decode cP_rootDelay 2 = .ok (.iconst 4, 1) := by decide +kernel
theorem dP_rootDelay_3 : decode cP_rootDelay 3 = .ok (.invokevirtual 13, 3) := by decide +kernel
theorem dP_rootDelay_6 : decode cP_rootDelay 6 = .ok (.ldc2_w 21, 3) := by decide +kernel
theorem dP_rootDelay_9 : decode cP_rootDelay 9 = .ok (.lmul, 1) := by decide +kernel
theorem dP_rootDelay_10 : decode cP_rootDelay 10 = .ok (.lreturn, 1) := by decide +kernel
theorem dP_rootDispersion_0 : decode cP_rootDispersion 0 = .ok (.aload_n 0, 1) := by decide +kernel
theorem dP_rootDispersion_1 : decode cP_rootDispersion 1 = .ok (.bipush 8, 2) := by decide +kernel
theorem dP_rootDispersion_3 : decode cP_rootDispersion 3 = .ok (.iconst 4, 1) := by decide +kernel
theorem dP_rootDispersion_4 : decode cP_rootDispersion 4 = .ok (.invokevirtual 13, 3) := by decide +kernel
theorem dP_rootDispersion_7 : decode cP_rootDispersion 7 = .ok (.ldc2_w 21, 3) := by decide +kernel
theorem dP_rootDispersion_10 : decode cP_rootDispersion 10 = .ok (.lmul, 1) := by decide +kernel
theorem dP_rootDispersion_11 : decode cP_rootDispersion 11 = .ok (.lreturn, 1) := by decide +kernel
theorem dS_keepRoot_0 : decode cS_keepRoot 0 = .ok (.aload_n 0, 1) := by decide +kernel
theorem dS_keepRoot_1 : decode cS_keepRoot 1 = .ok (.iload_n 1, 1) := by decide +kernel
theorem dS_keepRoot_2 : decode cS_keepRoot 2 = .ok (.putfield 30, 3) := by decide +kernel
theorem dS_keepRoot_5 : decode cS_keepRoot 5 = .ok (.aload_n 0, 1) := by decide +kernel
theorem dS_keepRoot_6 : decode cS_keepRoot 6 = .ok (.lload_n 2, 1) := by decide +kernel
theorem dS_keepRoot_7 : decode cS_keepRoot 7 = .ok (.putfield 33, 3) := by decide +kernel
theorem dS_keepRoot_10 : decode cS_keepRoot 10 = .ok (.aload_n 0, 1) := by decide +kernel
theorem dS_keepRoot_11 : decode cS_keepRoot 11 = .ok (.lload 4, 2) := by decide +kernel
theorem dS_keepRoot_13 : decode cS_keepRoot 13 = .ok (.putfield 36, 3) := by decide +kernel
theorem dS_keepRoot_16 : decode cS_keepRoot 16 = .ok (.return_, 1) := by decide +kernel
end
section
theorem dS_keepSample_0 : decode cS_keepSample 0 = .ok (.aload_n 0, 1) := by decide +kernel
theorem dS_keepSample_1 : decode cS_keepSample 1 = .ok (.aload_n 0, 1) := by decide +kernel
theorem dS_keepSample_2 : decode cS_keepSample 2 = .ok (.getfield 13, 3) := by decide +kernel
theorem dS_keepSample_5 : decode cS_keepSample 5 = .ok (.iconst 1, 1) := by decide +kernel
theorem dS_keepSample_6 : decode cS_keepSample 6 = .ok (.ior, 1) := by decide +kernel
theorem dS_keepSample_7 : decode cS_keepSample 7 = .ok (.putfield 13, 3) := by decide +kernel
theorem dS_keepSample_10 : decode cS_keepSample 10 = .ok (.aload_n 0, 1) := by decide +kernel
theorem dS_keepSample_11 : decode cS_keepSample 11 = .ok (.bipush 8, 2) := by decide +kernel
theorem dS_keepSample_13 : decode cS_keepSample 13 = .ok (.aload_n 0, 1) := by decide +kernel
theorem dS_keepSample_14 : decode cS_keepSample 14 = .ok (.getfield 27, 3) := by decide +kernel
theorem dS_keepSample_17 : decode cS_keepSample 17 = .ok (.iconst 1, 1) := by decide +kernel
theorem dS_keepSample_18 : decode cS_keepSample 18 = .ok (.iadd, 1) := by decide +kernel
theorem dS_keepSample_19 : decode cS_keepSample 19 = .ok (.invokestatic 58, 3) := by decide +kernel
theorem dS_keepSample_22 : decode cS_keepSample 22 = .ok (.putfield 27, 3) := by decide +kernel
theorem dS_keepSample_25 : decode cS_keepSample 25 = .ok (.aload_n 0, 1) := by decide +kernel
theorem dS_keepSample_26 : decode cS_keepSample 26 = .ok (.getfield 27, 3) := by decide +kernel
theorem dS_keepSample_29 : decode cS_keepSample 29 = .ok (.iconst 1, 1) := by decide +kernel
theorem dS_keepSample_30 : decode cS_keepSample 30 = .ok (.isub, 1) := by decide +kernel
theorem dS_keepSample_31 : decode cS_keepSample 31 = .ok (.istore 7, 2) := by decide +kernel
theorem dS_keepSample_33 : decode cS_keepSample 33 = .ok (.iload 7, 2) := by decide +kernel
theorem dS_keepSample_35 : decode cS_keepSample 35 = .ok (.ifCond .le 57, 3) := by decide +kernel
theorem dS_keepSample_38 : decode cS_keepSample 38 = .ok (.aload_n 0, 1) := by decide +kernel
theorem dS_keepSample_39 : decode cS_keepSample 39 = .ok (.getfield 39, 3) := by decide +kernel
theorem dS_keepSample_42 : decode cS_keepSample 42 = .ok (.iload 7, 2) := by decide +kernel
theorem dS_keepSample_44 : decode cS_keepSample 44 = .ok (.aload_n 0, 1) := by decide +kernel
theorem dS_keepSample_45 : decode cS_keepSample 45 = .ok (.getfield 39, 3) := by decide +kernel
theorem dS_keepSample_48 : decode cS_keepSample 48 = .ok (.iload 7, 2) := by decide +kernel
theorem dS_keepSample_50 : decode cS_keepSample 50 = .ok (.iconst 1, 1) := by decide +kernel
theorem dS_keepSample_51 : decode cS_keepSample 51 = .ok (.isub, 1) := by decide +kernel
theorem dS_keepSample_52 : decode cS_keepSample 52 = .ok (.laload, 1) := by decide +kernel
theorem dS_keepSample_53 : decode cS_keepSample 53 = .ok (.lastore, 1) := by decide +kernel
theorem dS_keepSample_54 : decode cS_keepSample 54 = .ok (.aload_n 0, 1) := by decide +kernel
theorem dS_keepSample_55 : decode cS_keepSample 55 = .ok (.getfield 43, 3) := by decide +kernel
theorem dS_keepSample_58 : decode cS_keepSample 58 = .ok (.iload 7, 2) := by decide +kernel
theorem dS_keepSample_60 : decode cS_keepSample 60 = .ok (.aload_n 0, 1) := by decide +kernel
theorem dS_keepSample_61 : decode cS_keepSample 61 = .ok (.getfield 43, 3) := by decide +kernel
theorem dS_keepSample_64 : decode cS_keepSample 64 = .ok (.iload 7, 2) := by decide +kernel
theorem dS_keepSample_66 : decode cS_keepSample 66 = .ok (.iconst 1, 1) := by decide +kernel
theorem dS_keepSample_67 : decode cS_keepSample 67 = .ok (.isub, 1) := by decide +kernel
theorem dS_keepSample_68 : decode cS_keepSample 68 = .ok (.laload, 1) := by decide +kernel
theorem dS_keepSample_69 : decode cS_keepSample 69 = .ok (.lastore, 1) := by decide +kernel
theorem dS_keepSample_70 : decode cS_keepSample 70 = .ok (.aload_n 0, 1) := by decide +kernel
theorem dS_keepSample_71 : decode cS_keepSample 71 = .ok (.getfield 46, 3) := by decide +kernel
theorem dS_keepSample_74 : decode cS_keepSample 74 = .ok (.iload 7, 2) := by decide +kernel
theorem dS_keepSample_76 : decode cS_keepSample 76 = .ok (.aload_n 0, 1) := by decide +kernel
theorem dS_keepSample_77 : decode cS_keepSample 77 = .ok (.getfield 46, 3) := by decide +kernel
theorem dS_keepSample_80 : decode cS_keepSample 80 = .ok (.iload 7, 2) := by decide +kernel
theorem dS_keepSample_82 : decode cS_keepSample 82 = .ok (.iconst 1, 1) := by decide +kernel
theorem dS_keepSample_83 : decode cS_keepSample 83 = .ok (.isub, 1) := by decide +kernel
theorem dS_keepSample_84 : decode cS_keepSample 84 = .ok (.laload, 1) := by decide +kernel
theorem dS_keepSample_85 : decode cS_keepSample 85 = .ok (.lastore, 1) := by decide +kernel
theorem dS_keepSample_86 : decode cS_keepSample 86 = .ok (.iinc 7 (-1), 3) := by decide +kernel
theorem dS_keepSample_89 : decode cS_keepSample 89 = .ok (.goto (-56), 3) := by decide +kernel
theorem dS_keepSample_92 : decode cS_keepSample 92 = .ok (.aload_n 0, 1) := by decide +kernel
theorem dS_keepSample_93 : decode cS_keepSample 93 = .ok (.getfield 39, 3) := by decide +kernel
theorem dS_keepSample_96 : decode cS_keepSample 96 = .ok (.iconst 0, 1) := by decide +kernel
theorem dS_keepSample_97 : decode cS_keepSample 97 = .ok (.lload_n 1, 1) := by decide +kernel
theorem dS_keepSample_98 : decode cS_keepSample 98 = .ok (.lastore, 1) := by decide +kernel
theorem dS_keepSample_99 : decode cS_keepSample 99 = .ok (.aload_n 0, 1) := by decide +kernel
theorem dS_keepSample_100 : decode cS_keepSample 100 = .ok (.getfield 43, 3) := by decide +kernel
theorem dS_keepSample_103 : decode cS_keepSample 103 = .ok (.iconst 0, 1) := by decide +kernel
theorem dS_keepSample_104 : decode cS_keepSample 104 = .ok (.lload_n 3, 1) := by decide +kernel
theorem dS_keepSample_105 : decode cS_keepSample 105 = .ok (.lastore, 1) := by decide +kernel
theorem dS_keepSample_106 : decode cS_keepSample 106 = .ok (.aload_n 0, 1) := by decide +kernel
theorem dS_keepSample_107 : decode cS_keepSample 107 = .ok (.getfield 46, 3) := by decide +kernel
theorem dS_keepSample_110 : decode cS_keepSample 110 = .ok (.iconst 0, 1) := by decide +kernel
theorem dS_keepSample_111 : decode cS_keepSample 111 = .ok (.lload 5, 2) := by decide +kernel
theorem dS_keepSample_113 : decode cS_keepSample 113 = .ok (.lastore, 1) := by decide +kernel
theorem dS_keepSample_114 : decode cS_keepSample 114 = .ok (.return_, 1) := by decide +kernel
theorem dL_reach_0 : decode cL_reach 0 = .ok (.aload_n 2, 1) := by decide +kernel
theorem dL_reach_1 : decode cL_reach 1 = .ok (.iconst 0, 1) := by decide +kernel
theorem dL_reach_2 : decode cL_reach 2 = .ok (.aload_n 0, 1) := by decide +kernel
theorem dL_reach_3 : decode cL_reach 3 = .ok (.iload_n 1, 1) := by decide +kernel
theorem dL_reach_4 : decode cL_reach 4 = .ok (.invokevirtual 35, 3) := by decide +kernel
theorem dL_reach_7 : decode cL_reach 7 = .ok (.i2l, 1) := by decide +kernel
theorem dL_reach_8 : decode cL_reach 8 = .ok (.lastore, 1) := by decide +kernel
theorem dL_reach_9 : decode cL_reach 9 = .ok (.goto 6, 3) := by decide +kernel
theorem dL_reach_12 : decode cL_reach 12 = .ok (.astore_n 3, 1) := by decide +kernel
theorem dL_reach_13 : decode cL_reach 13 = .ok (.iconst 1, 1) := by decide +kernel
theorem dL_reach_14 : decode cL_reach 14 = .ok (.ireturn, 1) := by decide +kernel
theorem dL_reach_15 : decode cL_reach 15 = .ok (.iconst 0, 1) := by decide +kernel
theorem dL_reach_16 : decode cL_reach 16 = .ok (.ireturn, 1) := by decide +kernel
theorem dC_reach_0 : decode cC_reach 0 = .ok (.aload_n 0, 1) := by decide +kernel
theorem dC_reach_1 : decode cC_reach 1 = .ok (.iload_n 1, 1) := by decide +kernel
theorem dC_reach_2 : decode cC_reach 2 = .ok (.invokevirtual 64, 3) := by decide +kernel
theorem dC_reach_5 : decode cC_reach 5 = .ok (.astore_n 2, 1) := by decide +kernel
theorem dC_reach_6 : decode cC_reach 6 = .ok (.aload_n 2, 1) := by decide +kernel
theorem dC_reach_7 : decode cC_reach 7 = .ok (.getfield 79, 3) := by decide +kernel
theorem dC_reach_10 : decode cC_reach 10 = .ok (.ifCond .eq 14, 3) := by decide +kernel
theorem dC_reach_13 : decode cC_reach 13 = .ok (.aload_n 2, 1) := by decide +kernel
theorem dC_reach_14 : decode cC_reach 14 = .ok (.getfield 108, 3) := by decide +kernel
theorem dC_reach_17 : decode cC_reach 17 = .ok (.sipush 256, 3) := by decide +kernel
theorem dC_reach_20 : decode cC_reach 20 = .ok (.iadd, 1) := by decide +kernel
theorem dC_reach_21 : decode cC_reach 21 = .ok (.goto 7, 3) := by decide +kernel
theorem dC_reach_24 : decode cC_reach 24 = .ok (.aload_n 2, 1) := by decide +kernel
theorem dC_reach_25 : decode cC_reach 25 = .ok (.getfield 108, 3) := by decide +kernel
theorem dC_reach_28 : decode cC_reach 28 = .ok (.ireturn, 1) := by decide +kernel
theorem dL_poll_0 : decode cL_poll 0 = .ok (.aload_n 2, 1) := by decide +kernel
theorem dL_poll_1 : decode cL_poll 1 = .ok (.iconst 0, 1) := by decide +kernel
theorem dL_poll_2 : decode cL_poll 2 = .ok (.aload_n 0, 1) := by decide +kernel
theorem dL_poll_3 : decode cL_poll 3 = .ok (.iload_n 1, 1) := by decide +kernel
theorem dL_poll_4 : decode cL_poll 4 = .ok (.invokevirtual 38, 3) := by decide +kernel
theorem dL_poll_7 : decode cL_poll 7 = .ok (.i2l, 1) := by decide +kernel
theorem dL_poll_8 : decode cL_poll 8 = .ok (.lastore, 1) := by decide +kernel
theorem dL_poll_9 : decode cL_poll 9 = .ok (.goto 6, 3) := by decide +kernel
theorem dL_poll_12 : decode cL_poll 12 = .ok (.astore_n 3, 1) := by decide +kernel
theorem dL_poll_13 : decode cL_poll 13 = .ok (.iconst 1, 1) := by decide +kernel
theorem dL_poll_14 : decode cL_poll 14 = .ok (.ireturn, 1) := by decide +kernel
theorem dL_poll_15 : decode cL_poll 15 = .ok (.iconst 0, 1) := by decide +kernel
theorem dL_poll_16 : decode cL_poll 16 = .ok (.ireturn, 1) := by decide +kernel
theorem dC_poll_0 : decode cC_poll 0 = .ok (.aload_n 0, 1) := by decide +kernel
theorem dC_poll_1 : decode cC_poll 1 = .ok (.iload_n 1, 1) := by decide +kernel
theorem dC_poll_2 : decode cC_poll 2 = .ok (.invokevirtual 64, 3) := by decide +kernel
theorem dC_poll_5 : decode cC_poll 5 = .ok (.getfield 112, 3) := by decide +kernel
theorem dC_poll_8 : decode cC_poll 8 = .ok (.ireturn, 1) := by decide +kernel
theorem dL_samples_0 : decode cL_samples 0 = .ok (.aload_n 2, 1) := by decide +kernel
theorem dL_samples_1 : decode cL_samples 1 = .ok (.iconst 0, 1) := by decide +kernel
theorem dL_samples_2 : decode cL_samples 2 = .ok (.aload_n 0, 1) := by decide +kernel
theorem dL_samples_3 : decode cL_samples 3 = .ok (.iload_n 1, 1) := by decide +kernel
theorem dL_samples_4 : decode cL_samples 4 = .ok (.invokevirtual 41, 3) := by decide +kernel
theorem dL_samples_7 : decode cL_samples 7 = .ok (.i2l, 1) := by decide +kernel
theorem dL_samples_8 : decode cL_samples 8 = .ok (.lastore, 1) := by decide +kernel
theorem dL_samples_9 : decode cL_samples 9 = .ok (.goto 6, 3) := by decide +kernel
theorem dL_samples_12 : decode cL_samples 12 = .ok (.astore_n 3, 1) := by decide +kernel
theorem dL_samples_13 : decode cL_samples 13 = .ok (.iconst 1, 1) := by decide +kernel
theorem dL_samples_14 : decode cL_samples 14 = .ok (.ireturn, 1) := by decide +kernel
theorem dL_samples_15 : decode cL_samples 15 = .ok (.iconst 0, 1) := by decide +kernel
theorem dL_samples_16 : decode cL_samples 16 = .ok (.ireturn, 1) := by decide +kernel
theorem dC_samples_0 : decode cC_samples 0 = .ok (.aload_n 0, 1) := by decide +kernel
theorem dC_samples_1 : decode cC_samples 1 = .ok (.iload_n 1, 1) := by decide +kernel
theorem dC_samples_2 : decode cC_samples 2 = .ok (.invokevirtual 64, 3) := by decide +kernel
theorem dC_samples_5 : decode cC_samples 5 = .ok (.getfield 115, 3) := by decide +kernel
theorem dC_samples_8 : decode cC_samples 8 = .ok (.ireturn, 1) := by decide +kernel
theorem dL_offset_0 : decode cL_offset 0 = .ok (.aload_n 2, 1) := by decide +kernel
theorem dL_offset_1 : decode cL_offset 1 = .ok (.iconst 0, 1) := by decide +kernel
theorem dL_offset_2 : decode cL_offset 2 = .ok (.aload_n 0, 1) := by decide +kernel
theorem dL_offset_3 : decode cL_offset 3 = .ok (.iload_n 1, 1) := by decide +kernel
theorem dL_offset_4 : decode cL_offset 4 = .ok (.invokevirtual 44, 3) := by decide +kernel
theorem dL_offset_7 : decode cL_offset 7 = .ok (.lastore, 1) := by decide +kernel
theorem dL_offset_8 : decode cL_offset 8 = .ok (.goto 9, 3) := by decide +kernel
theorem dL_offset_11 : decode cL_offset 11 = .ok (.astore_n 3, 1) := by decide +kernel
theorem dL_offset_12 : decode cL_offset 12 = .ok (.iconst 1, 1) := by decide +kernel
theorem dL_offset_13 : decode cL_offset 13 = .ok (.ireturn, 1) := by decide +kernel
theorem dL_offset_14 : decode cL_offset 14 = .ok (.astore_n 3, 1) := by decide +kernel
theorem dL_offset_15 : decode cL_offset 15 = .ok (.iconst 2, 1) := by decide +kernel
theorem dL_offset_16 : decode cL_offset 16 = .ok (.ireturn, 1) := by decide +kernel
theorem dL_offset_17 : decode cL_offset 17 = .ok (.iconst 0, 1) := by decide +kernel
theorem dL_offset_18 : decode cL_offset 18 = .ok (.ireturn, 1) := by decide +kernel
theorem dC_offset_0 : decode cC_offset 0 = .ok (.aload_n 0, 1) := by decide +kernel
theorem dC_offset_1 : decode cC_offset 1 = .ok (.iload_n 1, 1) := by decide +kernel
theorem dC_offset_2 : decode cC_offset 2 = .ok (.invokevirtual 118, 3) := by decide +kernel
theorem dC_offset_5 : decode cC_offset 5 = .ok (.aload_n 0, 1) := by decide +kernel
theorem dC_offset_6 : decode cC_offset 6 = .ok (.getfield 30, 3) := by decide +kernel
theorem dC_offset_9 : decode cC_offset 9 = .ok (.invokevirtual 121, 3) := by decide +kernel
theorem dC_offset_12 : decode cC_offset 12 = .ok (.lreturn, 1) := by decide +kernel
theorem dC_sampledAt_0 : decode cC_sampledAt 0 = .ok (.aload_n 0, 1) := by decide +kernel
theorem dC_sampledAt_1 : decode cC_sampledAt 1 = .ok (.iload_n 1, 1) := by decide +kernel
theorem dC_sampledAt_2 : decode cC_sampledAt 2 = .ok (.invokevirtual 64, 3) := by decide +kernel
theorem dC_sampledAt_5 : decode cC_sampledAt 5 = .ok (.astore_n 2, 1) := by decide +kernel
theorem dC_sampledAt_6 : decode cC_sampledAt 6 = .ok (.aload_n 2, 1) := by decide +kernel
theorem dC_sampledAt_7 : decode cC_sampledAt 7 = .ok (.getfield 115, 3) := by decide +kernel
theorem dC_sampledAt_10 : decode cC_sampledAt 10 = .ok (.ifCond .ne 11, 3) := by decide +kernel
theorem dC_sampledAt_13 : decode cC_sampledAt 13 = .ok (.new 144, 3) := by decide +kernel
theorem dC_sampledAt_16 : decode cC_sampledAt 16 = .ok (.dup, 1) := by decide +kernel
theorem dC_sampledAt_17 : decode cC_sampledAt 17 = .ok (.invokespecial 146, 3) := by decide +kernel
theorem dC_sampledAt_20 : decode cC_sampledAt 20 = .ok (.athrow, 1) := by decide +kernel
theorem dC_sampledAt_21 : decode cC_sampledAt 21 = .ok (.aload_n 2, 1) := by decide +kernel
theorem dC_sampledAt_22 : decode cC_sampledAt 22 = .ok (.areturn, 1) := by decide +kernel
theorem dL_delay_0 : decode cL_delay 0 = .ok (.aload_n 2, 1) := by decide +kernel
theorem dL_delay_1 : decode cL_delay 1 = .ok (.iconst 0, 1) := by decide +kernel
theorem dL_delay_2 : decode cL_delay 2 = .ok (.aload_n 0, 1) := by decide +kernel
theorem dL_delay_3 : decode cL_delay 3 = .ok (.iload_n 1, 1) := by decide +kernel
theorem dL_delay_4 : decode cL_delay 4 = .ok (.invokevirtual 49, 3) := by decide +kernel
theorem dL_delay_7 : decode cL_delay 7 = .ok (.lastore, 1) := by decide +kernel
theorem dL_delay_8 : decode cL_delay 8 = .ok (.goto 9, 3) := by decide +kernel
theorem dL_delay_11 : decode cL_delay 11 = .ok (.astore_n 3, 1) := by decide +kernel
theorem dL_delay_12 : decode cL_delay 12 = .ok (.iconst 1, 1) := by decide +kernel
theorem dL_delay_13 : decode cL_delay 13 = .ok (.ireturn, 1) := by decide +kernel
theorem dL_delay_14 : decode cL_delay 14 = .ok (.astore_n 3, 1) := by decide +kernel
theorem dL_delay_15 : decode cL_delay 15 = .ok (.iconst 2, 1) := by decide +kernel
theorem dL_delay_16 : decode cL_delay 16 = .ok (.ireturn, 1) := by decide +kernel
theorem dL_delay_17 : decode cL_delay 17 = .ok (.iconst 0, 1) := by decide +kernel
theorem dL_delay_18 : decode cL_delay 18 = .ok (.ireturn, 1) := by decide +kernel
theorem dC_delay_0 : decode cC_delay 0 = .ok (.aload_n 0, 1) := by decide +kernel
theorem dC_delay_1 : decode cC_delay 1 = .ok (.iload_n 1, 1) := by decide +kernel
theorem dC_delay_2 : decode cC_delay 2 = .ok (.invokevirtual 118, 3) := by decide +kernel
theorem dC_delay_5 : decode cC_delay 5 = .ok (.aload_n 0, 1) := by decide +kernel
theorem dC_delay_6 : decode cC_delay 6 = .ok (.getfield 30, 3) := by decide +kernel
theorem dC_delay_9 : decode cC_delay 9 = .ok (.invokevirtual 125, 3) := by decide +kernel
theorem dC_delay_12 : decode cC_delay 12 = .ok (.lreturn, 1) := by decide +kernel
theorem dS_bestDelay_0 : decode cS_bestDelay 0 = .ok (.aload_n 0, 1) := by decide +kernel
theorem dS_bestDelay_1 : decode cS_bestDelay 1 = .ok (.getfield 43, 3) := by decide +kernel
theorem dS_bestDelay_4 : decode cS_bestDelay 4 = .ok (.aload_n 0, 1) := by decide +kernel
theorem dS_bestDelay_5 : decode cS_bestDelay 5 = .ok (.lload_n 1, 1) := by decide +kernel
theorem dS_bestDelay_6 : decode cS_bestDelay 6 = .ok (.invokevirtual 67, 3) := by decide +kernel
theorem dS_bestDelay_9 : decode cS_bestDelay 9 = .ok (.laload, 1) := by decide +kernel
theorem dS_bestDelay_10 : decode cS_bestDelay 10 = .ok (.lreturn, 1) := by decide +kernel
theorem dL_jitter_0 : decode cL_jitter 0 = .ok (.aload_n 2, 1) := by decide +kernel
theorem dL_jitter_1 : decode cL_jitter 1 = .ok (.iconst 0, 1) := by decide +kernel
theorem dL_jitter_2 : decode cL_jitter 2 = .ok (.aload_n 0, 1) := by decide +kernel
theorem dL_jitter_3 : decode cL_jitter 3 = .ok (.iload_n 1, 1) := by decide +kernel
theorem dL_jitter_4 : decode cL_jitter 4 = .ok (.invokevirtual 52, 3) := by decide +kernel
theorem dL_jitter_7 : decode cL_jitter 7 = .ok (.lastore, 1) := by decide +kernel
theorem dL_jitter_8 : decode cL_jitter 8 = .ok (.goto 9, 3) := by decide +kernel
theorem dL_jitter_11 : decode cL_jitter 11 = .ok (.astore_n 3, 1) := by decide +kernel
theorem dL_jitter_12 : decode cL_jitter 12 = .ok (.iconst 1, 1) := by decide +kernel
theorem dL_jitter_13 : decode cL_jitter 13 = .ok (.ireturn, 1) := by decide +kernel
theorem dL_jitter_14 : decode cL_jitter 14 = .ok (.astore_n 3, 1) := by decide +kernel
theorem dL_jitter_15 : decode cL_jitter 15 = .ok (.iconst 2, 1) := by decide +kernel
theorem dL_jitter_16 : decode cL_jitter 16 = .ok (.ireturn, 1) := by decide +kernel
theorem dL_jitter_17 : decode cL_jitter 17 = .ok (.iconst 0, 1) := by decide +kernel
theorem dL_jitter_18 : decode cL_jitter 18 = .ok (.ireturn, 1) := by decide +kernel
theorem dC_jitter_0 : decode cC_jitter 0 = .ok (.aload_n 0, 1) := by decide +kernel
theorem dC_jitter_1 : decode cC_jitter 1 = .ok (.iload_n 1, 1) := by decide +kernel
theorem dC_jitter_2 : decode cC_jitter 2 = .ok (.invokevirtual 118, 3) := by decide +kernel
theorem dC_jitter_5 : decode cC_jitter 5 = .ok (.aload_n 0, 1) := by decide +kernel
theorem dC_jitter_6 : decode cC_jitter 6 = .ok (.getfield 30, 3) := by decide +kernel
theorem dC_jitter_9 : decode cC_jitter 9 = .ok (.invokevirtual 128, 3) := by decide +kernel
theorem dC_jitter_12 : decode cC_jitter 12 = .ok (.lreturn, 1) := by decide +kernel
theorem dS_jitterAt_0 : decode cS_jitterAt 0 = .ok (.aload_n 0, 1) := by decide +kernel
theorem dS_jitterAt_1 : decode cS_jitterAt 1 = .ok (.aload_n 0, 1) := by decide +kernel
theorem dS_jitterAt_2 : decode cS_jitterAt 2 = .ok (.getfield 39, 3) := by decide +kernel
theorem dS_jitterAt_5 : decode cS_jitterAt 5 = .ok (.aload_n 0, 1) := by decide +kernel
theorem dS_jitterAt_6 : decode cS_jitterAt 6 = .ok (.lload_n 1, 1) := by decide +kernel
theorem dS_jitterAt_7 : decode cS_jitterAt 7 = .ok (.invokevirtual 67, 3) := by decide +kernel
theorem dS_jitterAt_10 : decode cS_jitterAt 10 = .ok (.laload, 1) := by decide +kernel
theorem dS_jitterAt_11 : decode cS_jitterAt 11 = .ok (.invokevirtual 71, 3) := by decide +kernel
theorem dS_jitterAt_14 : decode cS_jitterAt 14 = .ok (.lreturn, 1) := by decide +kernel
theorem dL_distance_0 : decode cL_distance 0 = .ok (.aload_n 2, 1) := by decide +kernel
theorem dL_distance_1 : decode cL_distance 1 = .ok (.iconst 0, 1) := by decide +kernel
theorem dL_distance_2 : decode cL_distance 2 = .ok (.aload_n 0, 1) := by decide +kernel
theorem dL_distance_3 : decode cL_distance 3 = .ok (.iload_n 1, 1) := by decide +kernel
theorem dL_distance_4 : decode cL_distance 4 = .ok (.invokevirtual 55, 3) := by decide +kernel
theorem dL_distance_7 : decode cL_distance 7 = .ok (.lastore, 1) := by decide +kernel
theorem dL_distance_8 : decode cL_distance 8 = .ok (.goto 9, 3) := by decide +kernel
theorem dL_distance_11 : decode cL_distance 11 = .ok (.astore_n 3, 1) := by decide +kernel
theorem dL_distance_12 : decode cL_distance 12 = .ok (.iconst 1, 1) := by decide +kernel
theorem dL_distance_13 : decode cL_distance 13 = .ok (.ireturn, 1) := by decide +kernel
theorem dL_distance_14 : decode cL_distance 14 = .ok (.astore_n 3, 1) := by decide +kernel
theorem dL_distance_15 : decode cL_distance 15 = .ok (.iconst 2, 1) := by decide +kernel
theorem dL_distance_16 : decode cL_distance 16 = .ok (.ireturn, 1) := by decide +kernel
theorem dL_distance_17 : decode cL_distance 17 = .ok (.iconst 0, 1) := by decide +kernel
theorem dL_distance_18 : decode cL_distance 18 = .ok (.ireturn, 1) := by decide +kernel
theorem dC_distance_0 : decode cC_distance 0 = .ok (.aload_n 0, 1) := by decide +kernel
theorem dC_distance_1 : decode cC_distance 1 = .ok (.iload_n 1, 1) := by decide +kernel
theorem dC_distance_2 : decode cC_distance 2 = .ok (.invokevirtual 118, 3) := by decide +kernel
theorem dC_distance_5 : decode cC_distance 5 = .ok (.aload_n 0, 1) := by decide +kernel
theorem dC_distance_6 : decode cC_distance 6 = .ok (.getfield 30, 3) := by decide +kernel
theorem dC_distance_9 : decode cC_distance 9 = .ok (.invokevirtual 131, 3) := by decide +kernel
theorem dC_distance_12 : decode cC_distance 12 = .ok (.lreturn, 1) := by decide +kernel
theorem dL_low_0 : decode cL_low 0 = .ok (.aload_n 1, 1) := by decide +kernel
theorem dL_low_1 : decode cL_low 1 = .ok (.iconst 0, 1) := by decide +kernel
theorem dL_low_2 : decode cL_low 2 = .ok (.aload_n 0, 1) := by decide +kernel
theorem dL_low_3 : decode cL_low 3 = .ok (.invokevirtual 58, 3) := by decide +kernel
theorem dL_low_6 : decode cL_low 6 = .ok (.lastore, 1) := by decide +kernel
theorem dL_low_7 : decode cL_low 7 = .ok (.goto 6, 3) := by decide +kernel
theorem dL_low_10 : decode cL_low 10 = .ok (.astore_n 2, 1) := by decide +kernel
theorem dL_low_11 : decode cL_low 11 = .ok (.iconst 1, 1) := by decide +kernel
theorem dL_low_12 : decode cL_low 12 = .ok (.ireturn, 1) := by decide +kernel
theorem dL_low_13 : decode cL_low 13 = .ok (.iconst 0, 1) := by decide +kernel
theorem dL_low_14 : decode cL_low 14 = .ok (.ireturn, 1) := by decide +kernel
theorem dC_low_0 : decode cC_low 0 = .ok (.aload_n 0, 1) := by decide +kernel
theorem dC_low_1 : decode cC_low 1 = .ok (.getfield 26, 3) := by decide +kernel
theorem dC_low_4 : decode cC_low 4 = .ok (.aload_n 0, 1) := by decide +kernel
theorem dC_low_5 : decode cC_low 5 = .ok (.getfield 18, 3) := by decide +kernel
theorem dC_low_8 : decode cC_low 8 = .ok (.aload_n 0, 1) := by decide +kernel
theorem dC_low_9 : decode cC_low 9 = .ok (.getfield 30, 3) := by decide +kernel
theorem dC_low_12 : decode cC_low 12 = .ok (.invokevirtual 134, 3) := by decide +kernel
theorem dC_low_15 : decode cC_low 15 = .ok (.aload_n 0, 1) := by decide +kernel
theorem dC_low_16 : decode cC_low 16 = .ok (.getfield 26, 3) := by decide +kernel
theorem dC_low_19 : decode cC_low 19 = .ok (.invokevirtual 141, 3) := by decide +kernel
theorem dC_low_22 : decode cC_low 22 = .ok (.ifCond .ne 11, 3) := by decide +kernel
theorem dC_low_25 : decode cC_low 25 = .ok (.new 144, 3) := by decide +kernel
theorem dC_low_28 : decode cC_low 28 = .ok (.dup, 1) := by decide +kernel
theorem dC_low_29 : decode cC_low 29 = .ok (.invokespecial 146, 3) := by decide +kernel
theorem dC_low_32 : decode cC_low 32 = .ok (.athrow, 1) := by decide +kernel
theorem dC_low_33 : decode cC_low 33 = .ok (.aload_n 0, 1) := by decide +kernel
theorem dC_low_34 : decode cC_low 34 = .ok (.getfield 26, 3) := by decide +kernel
theorem dC_low_37 : decode cC_low 37 = .ok (.getfield 147, 3) := by decide +kernel
theorem dC_low_40 : decode cC_low 40 = .ok (.lreturn, 1) := by decide +kernel
theorem dV_hasMajority_0 : decode cV_hasMajority 0 = .ok (.aload_n 0, 1) := by decide +kernel
theorem dV_hasMajority_1 : decode cV_hasMajority 1 = .ok (.getfield 17, 3) := by decide +kernel
theorem dV_hasMajority_4 : decode cV_hasMajority 4 = .ok (.aload_n 0, 1) := by decide +kernel
theorem dV_hasMajority_5 : decode cV_hasMajority 5 = .ok (.getfield 23, 3) := by decide +kernel
theorem dV_hasMajority_8 : decode cV_hasMajority 8 = .ok (.lcmp, 1) := by decide +kernel
theorem dV_hasMajority_9 : decode cV_hasMajority 9 = .ok (.ifCond .gt 7, 3) := by decide +kernel
theorem dV_hasMajority_12 : decode cV_hasMajority 12 = .ok (.iconst 1, 1) := by decide +kernel
theorem dV_hasMajority_13 : decode cV_hasMajority 13 = .ok (.goto 4, 3) := by decide +kernel
theorem dV_hasMajority_16 : decode cV_hasMajority 16 = .ok (.iconst 0, 1) := by decide +kernel
theorem dV_hasMajority_17 : decode cV_hasMajority 17 = .ok (.ireturn, 1) := by decide +kernel
theorem dL_high_0 : decode cL_high 0 = .ok (.aload_n 1, 1) := by decide +kernel
theorem dL_high_1 : decode cL_high 1 = .ok (.iconst 0, 1) := by decide +kernel
theorem dL_high_2 : decode cL_high 2 = .ok (.aload_n 0, 1) := by decide +kernel
theorem dL_high_3 : decode cL_high 3 = .ok (.invokevirtual 62, 3) := by decide +kernel
theorem dL_high_6 : decode cL_high 6 = .ok (.lastore, 1) := by decide +kernel
theorem dL_high_7 : decode cL_high 7 = .ok (.goto 6, 3) := by decide +kernel
theorem dL_high_10 : decode cL_high 10 = .ok (.astore_n 2, 1) := by decide +kernel
theorem dL_high_11 : decode cL_high 11 = .ok (.iconst 1, 1) := by decide +kernel
theorem dL_high_12 : decode cL_high 12 = .ok (.ireturn, 1) := by decide +kernel
theorem dL_high_13 : decode cL_high 13 = .ok (.iconst 0, 1) := by decide +kernel
theorem dL_high_14 : decode cL_high 14 = .ok (.ireturn, 1) := by decide +kernel
theorem dC_high_0 : decode cC_high 0 = .ok (.aload_n 0, 1) := by decide +kernel
theorem dC_high_1 : decode cC_high 1 = .ok (.getfield 26, 3) := by decide +kernel
theorem dC_high_4 : decode cC_high 4 = .ok (.aload_n 0, 1) := by decide +kernel
theorem dC_high_5 : decode cC_high 5 = .ok (.getfield 18, 3) := by decide +kernel
theorem dC_high_8 : decode cC_high 8 = .ok (.aload_n 0, 1) := by decide +kernel
theorem dC_high_9 : decode cC_high 9 = .ok (.getfield 30, 3) := by decide +kernel
theorem dC_high_12 : decode cC_high 12 = .ok (.invokevirtual 134, 3) := by decide +kernel
theorem dC_high_15 : decode cC_high 15 = .ok (.aload_n 0, 1) := by decide +kernel
theorem dC_high_16 : decode cC_high 16 = .ok (.getfield 26, 3) := by decide +kernel
theorem dC_high_19 : decode cC_high 19 = .ok (.invokevirtual 141, 3) := by decide +kernel
theorem dC_high_22 : decode cC_high 22 = .ok (.ifCond .ne 11, 3) := by decide +kernel
theorem dC_high_25 : decode cC_high 25 = .ok (.new 144, 3) := by decide +kernel
theorem dC_high_28 : decode cC_high 28 = .ok (.dup, 1) := by decide +kernel
theorem dC_high_29 : decode cC_high 29 = .ok (.invokespecial 146, 3) := by decide +kernel
theorem dC_high_32 : decode cC_high 32 = .ok (.athrow, 1) := by decide +kernel
theorem dC_high_33 : decode cC_high 33 = .ok (.aload_n 0, 1) := by decide +kernel
theorem dC_high_34 : decode cC_high 34 = .ok (.getfield 26, 3) := by decide +kernel
theorem dC_high_37 : decode cC_high 37 = .ok (.getfield 150, 3) := by decide +kernel
theorem dC_high_40 : decode cC_high 40 = .ok (.lreturn, 1) := by decide +kernel
theorem dL_peer_0 : decode cL_peer 0 = .ok (.aload_n 1, 1) := by decide +kernel
theorem dL_peer_1 : decode cL_peer 1 = .ok (.iconst 0, 1) := by decide +kernel
theorem dL_peer_2 : decode cL_peer 2 = .ok (.aload_n 0, 1) := by decide +kernel
theorem dL_peer_3 : decode cL_peer 3 = .ok (.invokevirtual 65, 3) := by decide +kernel
theorem dL_peer_6 : decode cL_peer 6 = .ok (.i2l, 1) := by decide +kernel
theorem dL_peer_7 : decode cL_peer 7 = .ok (.lastore, 1) := by decide +kernel
theorem dL_peer_8 : decode cL_peer 8 = .ok (.goto 6, 3) := by decide +kernel
theorem dL_peer_11 : decode cL_peer 11 = .ok (.astore_n 2, 1) := by decide +kernel
theorem dL_peer_12 : decode cL_peer 12 = .ok (.iconst 1, 1) := by decide +kernel
theorem dL_peer_13 : decode cL_peer 13 = .ok (.ireturn, 1) := by decide +kernel
theorem dL_peer_14 : decode cL_peer 14 = .ok (.iconst 0, 1) := by decide +kernel
theorem dL_peer_15 : decode cL_peer 15 = .ok (.ireturn, 1) := by decide +kernel
theorem dC_peer_0 : decode cC_peer 0 = .ok (.aload_n 0, 1) := by decide +kernel
theorem dC_peer_1 : decode cC_peer 1 = .ok (.getfield 26, 3) := by decide +kernel
theorem dC_peer_4 : decode cC_peer 4 = .ok (.aload_n 0, 1) := by decide +kernel
theorem dC_peer_5 : decode cC_peer 5 = .ok (.getfield 18, 3) := by decide +kernel
theorem dC_peer_8 : decode cC_peer 8 = .ok (.aload_n 0, 1) := by decide +kernel
theorem dC_peer_9 : decode cC_peer 9 = .ok (.getfield 30, 3) := by decide +kernel
theorem dC_peer_12 : decode cC_peer 12 = .ok (.invokevirtual 134, 3) := by decide +kernel
theorem dC_peer_15 : decode cC_peer 15 = .ok (.aload_n 0, 1) := by decide +kernel
theorem dC_peer_16 : decode cC_peer 16 = .ok (.getfield 26, 3) := by decide +kernel
theorem dC_peer_19 : decode cC_peer 19 = .ok (.invokevirtual 156, 3) := by decide +kernel
theorem dC_peer_22 : decode cC_peer 22 = .ok (.ifCond .ne 11, 3) := by decide +kernel
theorem dC_peer_25 : decode cC_peer 25 = .ok (.new 144, 3) := by decide +kernel
theorem dC_peer_28 : decode cC_peer 28 = .ok (.dup, 1) := by decide +kernel
theorem dC_peer_29 : decode cC_peer 29 = .ok (.invokespecial 146, 3) := by decide +kernel
theorem dC_peer_32 : decode cC_peer 32 = .ok (.athrow, 1) := by decide +kernel
theorem dC_peer_33 : decode cC_peer 33 = .ok (.aload_n 0, 1) := by decide +kernel
theorem dC_peer_34 : decode cC_peer 34 = .ok (.getfield 26, 3) := by decide +kernel
theorem dC_peer_37 : decode cC_peer 37 = .ok (.aload_n 0, 1) := by decide +kernel
theorem dC_peer_38 : decode cC_peer 38 = .ok (.getfield 18, 3) := by decide +kernel
theorem dC_peer_41 : decode cC_peer 41 = .ok (.invokevirtual 159, 3) := by decide +kernel
theorem dC_peer_44 : decode cC_peer 44 = .ok (.ireturn, 1) := by decide +kernel
theorem dV_agrees_0 : decode cV_agrees 0 = .ok (.aload_n 0, 1) := by decide +kernel
theorem dV_agrees_1 : decode cV_agrees 1 = .ok (.invokevirtual 46, 3) := by decide +kernel
theorem dV_agrees_4 : decode cV_agrees 4 = .ok (.ifCond .eq 14, 3) := by decide +kernel
theorem dV_agrees_7 : decode cV_agrees 7 = .ok (.aload_n 0, 1) := by decide +kernel
theorem dV_agrees_8 : decode cV_agrees 8 = .ok (.getfield 26, 3) := by decide +kernel
theorem dV_agrees_11 : decode cV_agrees 11 = .ok (.ifCond .eq 7, 3) := by decide +kernel
theorem dV_agrees_14 : decode cV_agrees 14 = .ok (.iconst 1, 1) := by decide +kernel
theorem dV_agrees_15 : decode cV_agrees 15 = .ok (.goto 4, 3) := by decide +kernel
theorem dV_agrees_18 : decode cV_agrees 18 = .ok (.iconst 0, 1) := by decide +kernel
theorem dV_agrees_19 : decode cV_agrees 19 = .ok (.ireturn, 1) := by decide +kernel
theorem dV_choosePeer_0 : decode cV_choosePeer 0 = .ok (.iconst (-1), 1) := by decide +kernel
theorem dV_choosePeer_1 : decode cV_choosePeer 1 = .ok (.istore_n 2, 1) := by decide +kernel
theorem dV_choosePeer_2 : decode cV_choosePeer 2 = .ok (.iconst 0, 1) := by decide +kernel
theorem dV_choosePeer_3 : decode cV_choosePeer 3 = .ok (.istore_n 3, 1) := by decide +kernel
theorem dV_choosePeer_4 : decode cV_choosePeer 4 = .ok (.iload_n 3, 1) := by decide +kernel
theorem dV_choosePeer_5 : decode cV_choosePeer 5 = .ok (.iconst 5, 1) := by decide +kernel
theorem dV_choosePeer_6 : decode cV_choosePeer 6 = .ok (.if_icmp .ge 36, 3) := by decide +kernel
theorem dV_choosePeer_9 : decode cV_choosePeer 9 = .ok (.aload_n 0, 1) := by decide +kernel
theorem dV_choosePeer_10 : decode cV_choosePeer 10 = .ok (.getfield 26, 3) := by decide +kernel
theorem dV_choosePeer_13 : decode cV_choosePeer 13 = .ok (.iload_n 3, 1) := by decide +kernel
theorem dV_choosePeer_14 : decode cV_choosePeer 14 = .ok (.invokestatic 50, 3) := by decide +kernel
theorem dV_choosePeer_17 : decode cV_choosePeer 17 = .ok (.ifCond .eq 19, 3) := by decide +kernel
theorem dV_choosePeer_20 : decode cV_choosePeer 20 = .ok (.iload_n 2, 1) := by decide +kernel
theorem dV_choosePeer_21 : decode cV_choosePeer 21 = .ok (.ifCond .lt 13, 3) := by decide +kernel
theorem dV_choosePeer_24 : decode cV_choosePeer 24 = .ok (.aload_n 0, 1) := by decide +kernel
theorem dV_choosePeer_25 : decode cV_choosePeer 25 = .ok (.aload_n 1, 1) := by decide +kernel
theorem dV_choosePeer_26 : decode cV_choosePeer 26 = .ok (.iload_n 3, 1) := by decide +kernel
theorem dV_choosePeer_27 : decode cV_choosePeer 27 = .ok (.iload_n 2, 1) := by decide +kernel
theorem dV_choosePeer_28 : decode cV_choosePeer 28 = .ok (.invokevirtual 54, 3) := by decide +kernel
theorem dV_choosePeer_31 : decode cV_choosePeer 31 = .ok (.ifCond .eq 5, 3) := by decide +kernel
theorem dV_choosePeer_34 : decode cV_choosePeer 34 = .ok (.iload_n 3, 1) := by decide +kernel
theorem dV_choosePeer_35 : decode cV_choosePeer 35 = .ok (.istore_n 2, 1) := by decide +kernel
theorem dV_choosePeer_36 : decode cV_choosePeer 36 = .ok (.iinc 3 1, 3) := by decide +kernel
theorem dV_choosePeer_39 : decode cV_choosePeer 39 = .ok (.goto (-35), 3) := by decide +kernel
theorem dV_choosePeer_42 : decode cV_choosePeer 42 = .ok (.iconst 0, 1) := by decide +kernel
theorem dV_choosePeer_43 : decode cV_choosePeer 43 = .ok (.iload_n 2, 1) := by decide +kernel
theorem dV_choosePeer_44 : decode cV_choosePeer 44 = .ok (.invokestatic 58, 3) := by decide +kernel
theorem dV_choosePeer_47 : decode cV_choosePeer 47 = .ok (.ireturn, 1) := by decide +kernel
theorem dV_isBetter_0 : decode cV_isBetter 0 = .ok (.aload_n 1, 1) := by decide +kernel
theorem dV_isBetter_1 : decode cV_isBetter 1 = .ok (.iload_n 2, 1) := by decide +kernel
theorem dV_isBetter_2 : decode cV_isBetter 2 = .ok (.aaload, 1) := by decide +kernel
theorem dV_isBetter_3 : decode cV_isBetter 3 = .ok (.getfield 117, 3) := by decide +kernel
theorem dV_isBetter_6 : decode cV_isBetter 6 = .ok (.istore 4, 2) := by decide +kernel
theorem dV_isBetter_8 : decode cV_isBetter 8 = .ok (.aload_n 1, 1) := by decide +kernel
theorem dV_isBetter_9 : decode cV_isBetter 9 = .ok (.iload_n 3, 1) := by decide +kernel
theorem dV_isBetter_10 : decode cV_isBetter 10 = .ok (.aaload, 1) := by decide +kernel
theorem dV_isBetter_11 : decode cV_isBetter 11 = .ok (.getfield 117, 3) := by decide +kernel
theorem dV_isBetter_14 : decode cV_isBetter 14 = .ok (.istore 5, 2) := by decide +kernel
theorem dV_isBetter_16 : decode cV_isBetter 16 = .ok (.iload 4, 2) := by decide +kernel
theorem dV_isBetter_18 : decode cV_isBetter 18 = .ok (.iload 5, 2) := by decide +kernel
theorem dV_isBetter_20 : decode cV_isBetter 20 = .ok (.if_icmp .lt 26, 3) := by decide +kernel
theorem dV_isBetter_23 : decode cV_isBetter 23 = .ok (.iload 4, 2) := by decide +kernel
theorem dV_isBetter_25 : decode cV_isBetter 25 = .ok (.iload 5, 2) := by decide +kernel
theorem dV_isBetter_27 : decode cV_isBetter 27 = .ok (.if_icmp .ne 23, 3) := by decide +kernel
theorem dV_isBetter_30 : decode cV_isBetter 30 = .ok (.aload_n 0, 1) := by decide +kernel
theorem dV_isBetter_31 : decode cV_isBetter 31 = .ok (.getfield 33, 3) := by decide +kernel
theorem dV_isBetter_34 : decode cV_isBetter 34 = .ok (.iload_n 2, 1) := by decide +kernel
theorem dV_isBetter_35 : decode cV_isBetter 35 = .ok (.laload, 1) := by decide +kernel
theorem dV_isBetter_36 : decode cV_isBetter 36 = .ok (.aload_n 0, 1) := by decide +kernel
theorem dV_isBetter_37 : decode cV_isBetter 37 = .ok (.getfield 33, 3) := by decide +kernel
theorem dV_isBetter_40 : decode cV_isBetter 40 = .ok (.iload_n 3, 1) := by decide +kernel
theorem dV_isBetter_41 : decode cV_isBetter 41 = .ok (.laload, 1) := by decide +kernel
theorem dV_isBetter_42 : decode cV_isBetter 42 = .ok (.lcmp, 1) := by decide +kernel
theorem dV_isBetter_43 : decode cV_isBetter 43 = .ok (.ifCond .ge 7, 3) := by decide +kernel
theorem dV_isBetter_46 : decode cV_isBetter 46 = .ok (.iconst 1, 1) := by decide +kernel
theorem dV_isBetter_47 : decode cV_isBetter 47 = .ok (.goto 4, 3) := by decide +kernel
theorem dV_isBetter_50 : decode cV_isBetter 50 = .ok (.iconst 0, 1) := by decide +kernel
theorem dV_isBetter_51 : decode cV_isBetter 51 = .ok (.ireturn, 1) := by decide +kernel
theorem dJ_max_7cf5_0 : decode cJ_max_7cf5 0 = .ok (.iload_n 0, 1) := by decide +kernel
theorem dJ_max_7cf5_1 : decode cJ_max_7cf5 1 = .ok (.iload_n 1, 1) := by decide +kernel
theorem dJ_max_7cf5_2 : decode cJ_max_7cf5 2 = .ok (.if_icmp .lt 7, 3) := by decide +kernel
theorem dJ_max_7cf5_5 : decode cJ_max_7cf5 5 = .ok (.iload_n 0, 1) := by decide +kernel
theorem dJ_max_7cf5_6 : decode cJ_max_7cf5 6 = .ok (.goto 4, 3) := by decide +kernel
theorem dJ_max_7cf5_9 : decode cJ_max_7cf5 9 = .ok (.iload_n 1, 1) := by decide +kernel
theorem dJ_max_7cf5_10 : decode cJ_max_7cf5 10 = .ok (.ireturn, 1) := by decide +kernel
theorem dL_update_0 : decode cL_update 0 = .ok (.aload_n 1, 1) := by decide +kernel
theorem dL_update_1 : decode cL_update 1 = .ok (.iconst 0, 1) := by decide +kernel
theorem dL_update_2 : decode cL_update 2 = .ok (.aload_n 0, 1) := by decide +kernel
theorem dL_update_3 : decode cL_update 3 = .ok (.invokevirtual 69, 3) := by decide +kernel
theorem dL_update_6 : decode cL_update 6 = .ok (.i2l, 1) := by decide +kernel
theorem dL_update_7 : decode cL_update 7 = .ok (.lastore, 1) := by decide +kernel
theorem dL_update_8 : decode cL_update 8 = .ok (.goto 9, 3) := by decide +kernel
theorem dL_update_11 : decode cL_update 11 = .ok (.astore_n 2, 1) := by decide +kernel
theorem dL_update_12 : decode cL_update 12 = .ok (.iconst 1, 1) := by decide +kernel
theorem dL_update_13 : decode cL_update 13 = .ok (.ireturn, 1) := by decide +kernel
theorem dL_update_14 : decode cL_update 14 = .ok (.astore_n 2, 1) := by decide +kernel
theorem dL_update_15 : decode cL_update 15 = .ok (.iconst 2, 1) := by decide +kernel
theorem dL_update_16 : decode cL_update 16 = .ok (.ireturn, 1) := by decide +kernel
theorem dL_update_17 : decode cL_update 17 = .ok (.iconst 0, 1) := by decide +kernel
theorem dL_update_18 : decode cL_update 18 = .ok (.ireturn, 1) := by decide +kernel
theorem dC_update_0 : decode cC_update 0 = .ok (.aload_n 0, 1) := by decide +kernel
theorem dC_update_1 : decode cC_update 1 = .ok (.getfield 26, 3) := by decide +kernel
theorem dC_update_4 : decode cC_update 4 = .ok (.aload_n 0, 1) := by decide +kernel
theorem dC_update_5 : decode cC_update 5 = .ok (.getfield 18, 3) := by decide +kernel
theorem dC_update_8 : decode cC_update 8 = .ok (.aload_n 0, 1) := by decide +kernel
theorem dC_update_9 : decode cC_update 9 = .ok (.getfield 30, 3) := by decide +kernel
theorem dC_update_12 : decode cC_update 12 = .ok (.invokevirtual 134, 3) := by decide +kernel
theorem dC_update_15 : decode cC_update 15 = .ok (.aload_n 0, 1) := by decide +kernel
theorem dC_update_16 : decode cC_update 16 = .ok (.getfield 26, 3) := by decide +kernel
theorem dC_update_19 : decode cC_update 19 = .ok (.invokevirtual 156, 3) := by decide +kernel
theorem dC_update_22 : decode cC_update 22 = .ok (.ifCond .ne 11, 3) := by decide +kernel
theorem dC_update_25 : decode cC_update 25 = .ok (.new 71, 3) := by decide +kernel
theorem dC_update_28 : decode cC_update 28 = .ok (.dup, 1) := by decide +kernel
theorem dC_update_29 : decode cC_update 29 = .ok (.invokespecial 73, 3) := by decide +kernel
theorem dC_update_32 : decode cC_update 32 = .ok (.athrow, 1) := by decide +kernel
theorem dC_update_33 : decode cC_update 33 = .ok (.aload_n 0, 1) := by decide +kernel
theorem dC_update_34 : decode cC_update 34 = .ok (.getfield 26, 3) := by decide +kernel
theorem dC_update_37 : decode cC_update 37 = .ok (.invokevirtual 163, 3) := by decide +kernel
theorem dC_update_40 : decode cC_update 40 = .ok (.lstore_n 1, 1) := by decide +kernel
theorem dC_update_41 : decode cC_update 41 = .ok (.lload_n 1, 1) := by decide +kernel
theorem dC_update_42 : decode cC_update 42 = .ok (.invokestatic 167, 3) := by decide +kernel
theorem dC_update_45 : decode cC_update 45 = .ok (.lstore_n 3, 1) := by decide +kernel
theorem dC_update_46 : decode cC_update 46 = .ok (.lload_n 3, 1) := by decide +kernel
theorem dC_update_47 : decode cC_update 47 = .ok (.ldc2_w 170, 3) := by decide +kernel
theorem dC_update_50 : decode cC_update 50 = .ok (.lcmp, 1) := by decide +kernel
theorem dC_update_51 : decode cC_update 51 = .ok (.ifCond .le 18, 3) := by decide +kernel
theorem dC_update_54 : decode cC_update 54 = .ok (.aload_n 0, 1) := by decide +kernel
theorem dC_update_55 : decode cC_update 55 = .ok (.getfield 37, 3) := by decide +kernel
theorem dC_update_58 : decode cC_update 58 = .ok (.ifCond .eq 11, 3) := by decide +kernel
theorem dC_update_61 : decode cC_update 61 = .ok (.new 172, 3) := by decide +kernel
theorem dC_update_64 : decode cC_update 64 = .ok (.dup, 1) := by decide +kernel
theorem dC_update_65 : decode cC_update 65 = .ok (.invokespecial 174, 3) := by decide +kernel
theorem dC_update_68 : decode cC_update 68 = .ok (.athrow, 1) := by decide +kernel
theorem dC_update_69 : decode cC_update 69 = .ok (.aload_n 0, 1) := by decide +kernel
theorem dC_update_70 : decode cC_update 70 = .ok (.iconst 1, 1) := by decide +kernel
theorem dC_update_71 : decode cC_update 71 = .ok (.putfield 37, 3) := by decide +kernel
theorem dC_update_74 : decode cC_update 74 = .ok (.lload_n 3, 1) := by decide +kernel
theorem dC_update_75 : decode cC_update 75 = .ok (.ldc2_w 175, 3) := by decide +kernel
theorem dC_update_78 : decode cC_update 78 = .ok (.lcmp, 1) := by decide +kernel
theorem dC_update_79 : decode cC_update 79 = .ok (.ifCond .le 10, 3) := by decide +kernel
theorem dC_update_82 : decode cC_update 82 = .ok (.aload_n 0, 1) := by decide +kernel
theorem dC_update_83 : decode cC_update 83 = .ok (.lload_n 1, 1) := by decide +kernel
theorem dC_update_84 : decode cC_update 84 = .ok (.invokevirtual 177, 3) := by decide +kernel
theorem dC_update_87 : decode cC_update 87 = .ok (.iconst 1, 1) := by decide +kernel
theorem dC_update_88 : decode cC_update 88 = .ok (.ireturn, 1) := by decide +kernel
theorem dC_update_89 : decode cC_update 89 = .ok (.aload_n 0, 1) := by decide +kernel
theorem dC_update_90 : decode cC_update 90 = .ok (.lload_n 1, 1) := by decide +kernel
theorem dC_update_91 : decode cC_update 91 = .ok (.putfield 34, 3) := by decide +kernel
theorem dC_update_94 : decode cC_update 94 = .ok (.aload_n 0, 1) := by decide +kernel
theorem dC_update_95 : decode cC_update 95 = .ok (.lload_n 3, 1) := by decide +kernel
theorem dC_update_96 : decode cC_update 96 = .ok (.invokevirtual 180, 3) := by decide +kernel
theorem dC_update_99 : decode cC_update 99 = .ok (.iconst 0, 1) := by decide +kernel
theorem dC_update_100 : decode cC_update 100 = .ok (.ireturn, 1) := by decide +kernel
theorem dV_combinedOffset_0 : decode cV_combinedOffset 0 = .ok (.lconst 0, 1) := by decide +kernel
theorem dV_combinedOffset_1 : decode cV_combinedOffset 1 = .ok (.lstore_n 1, 1) := by decide +kernel
theorem dV_combinedOffset_2 : decode cV_combinedOffset 2 = .ok (.iconst 0, 1) := by decide +kernel
theorem dV_combinedOffset_3 : decode cV_combinedOffset 3 = .ok (.istore_n 3, 1) := by decide +kernel
theorem dV_combinedOffset_4 : decode cV_combinedOffset 4 = .ok (.iload_n 3, 1) := by decide +kernel
theorem dV_combinedOffset_5 : decode cV_combinedOffset 5 = .ok (.iconst 5, 1) := by decide +kernel
theorem dV_combinedOffset_6 : decode cV_combinedOffset 6 = .ok (.if_icmp .ge 29, 3) := by decide +kernel
theorem dV_combinedOffset_9 : decode cV_combinedOffset 9 = .ok (.aload_n 0, 1) := by decide +kernel
theorem dV_combinedOffset_10 : decode cV_combinedOffset 10 = .ok (.getfield 26, 3) := by decide +kernel
theorem dV_combinedOffset_13 : decode cV_combinedOffset 13 = .ok (.iload_n 3, 1) := by decide +kernel
theorem dV_combinedOffset_14 : decode cV_combinedOffset 14 = .ok (.invokestatic 50, 3) := by decide +kernel
theorem dV_combinedOffset_17 : decode cV_combinedOffset 17 = .ok (.ifCond .eq 12, 3) := by decide +kernel
theorem dV_combinedOffset_20 : decode cV_combinedOffset 20 = .ok (.lload_n 1, 1) := by decide +kernel
theorem dV_combinedOffset_21 : decode cV_combinedOffset 21 = .ok (.aload_n 0, 1) := by decide +kernel
theorem dV_combinedOffset_22 : decode cV_combinedOffset 22 = .ok (.getfield 29, 3) := by decide +kernel
theorem dV_combinedOffset_25 : decode cV_combinedOffset 25 = .ok (.iload_n 3, 1) := by decide +kernel
theorem dV_combinedOffset_26 : decode cV_combinedOffset 26 = .ok (.laload, 1) := by decide +kernel
theorem dV_combinedOffset_27 : decode cV_combinedOffset 27 = .ok (.ladd, 1) := by decide +kernel
theorem dV_combinedOffset_28 : decode cV_combinedOffset 28 = .ok (.lstore_n 1, 1) := by decide +kernel
theorem dV_combinedOffset_29 : decode cV_combinedOffset 29 = .ok (.iinc 3 1, 3) := by decide +kernel
theorem dV_combinedOffset_32 : decode cV_combinedOffset 32 = .ok (.goto (-28), 3) := by decide +kernel
theorem dV_combinedOffset_35 : decode cV_combinedOffset 35 = .ok (.lload_n 1, 1) := by decide +kernel
theorem dV_combinedOffset_36 : decode cV_combinedOffset 36 = .ok (.iconst 1, 1) := by decide +kernel
theorem dV_combinedOffset_37 : decode cV_combinedOffset 37 = .ok (.aload_n 0, 1) := by decide +kernel
theorem dV_combinedOffset_38 : decode cV_combinedOffset 38 = .ok (.getfield 26, 3) := by decide +kernel
theorem dV_combinedOffset_41 : decode cV_combinedOffset 41 = .ok (.invokestatic 64, 3) := by decide +kernel
theorem dV_combinedOffset_44 : decode cV_combinedOffset 44 = .ok (.invokestatic 58, 3) := by decide +kernel
theorem dV_combinedOffset_47 : decode cV_combinedOffset 47 = .ok (.i2l, 1) := by decide +kernel
theorem dV_combinedOffset_48 : decode cV_combinedOffset 48 = .ok (.invokestatic 70, 3) := by decide +kernel
theorem dV_combinedOffset_51 : decode cV_combinedOffset 51 = .ok (.lreturn, 1) := by decide +kernel
theorem dC_stepBy_0 : decode cC_stepBy 0 = .ok (.aload_n 0, 1) := by decide +kernel
theorem dC_stepBy_1 : decode cC_stepBy 1 = .ok (.dup, 1) := by decide +kernel
theorem dC_stepBy_2 : decode cC_stepBy 2 = .ok (.getfield 30, 3) := by decide +kernel
theorem dC_stepBy_5 : decode cC_stepBy 5 = .ok (.lload_n 1, 1) := by decide +kernel
theorem dC_stepBy_6 : decode cC_stepBy 6 = .ok (.ladd, 1) := by decide +kernel
theorem dC_stepBy_7 : decode cC_stepBy 7 = .ok (.putfield 30, 3) := by decide +kernel
theorem dC_stepBy_10 : decode cC_stepBy 10 = .ok (.aload_n 0, 1) := by decide +kernel
theorem dC_stepBy_11 : decode cC_stepBy 11 = .ok (.lconst 0, 1) := by decide +kernel
theorem dC_stepBy_12 : decode cC_stepBy 12 = .ok (.putfield 34, 3) := by decide +kernel
theorem dC_stepBy_15 : decode cC_stepBy 15 = .ok (.iconst 0, 1) := by decide +kernel
theorem dC_stepBy_16 : decode cC_stepBy 16 = .ok (.istore_n 3, 1) := by decide +kernel
theorem dC_stepBy_17 : decode cC_stepBy 17 = .ok (.iload_n 3, 1) := by decide +kernel
theorem dC_stepBy_18 : decode cC_stepBy 18 = .ok (.iconst 5, 1) := by decide +kernel
theorem dC_stepBy_19 : decode cC_stepBy 19 = .ok (.if_icmp .ge 18, 3) := by decide +kernel
theorem dC_stepBy_22 : decode cC_stepBy 22 = .ok (.aload_n 0, 1) := by decide +kernel
theorem dC_stepBy_23 : decode cC_stepBy 23 = .ok (.getfield 18, 3) := by decide +kernel
theorem dC_stepBy_26 : decode cC_stepBy 26 = .ok (.iload_n 3, 1) := by decide +kernel
theorem dC_stepBy_27 : decode cC_stepBy 27 = .ok (.aaload, 1) := by decide +kernel
theorem dC_stepBy_28 : decode cC_stepBy 28 = .ok (.invokevirtual 206, 3) := by decide +kernel
theorem dC_stepBy_31 : decode cC_stepBy 31 = .ok (.iinc 3 1, 3) := by decide +kernel
theorem dC_stepBy_34 : decode cC_stepBy 34 = .ok (.goto (-17), 3) := by decide +kernel
theorem dC_stepBy_37 : decode cC_stepBy 37 = .ok (.return_, 1) := by decide +kernel
theorem dS_forget_0 : decode cS_forget 0 = .ok (.aload_n 0, 1) := by decide +kernel
theorem dS_forget_1 : decode cS_forget 1 = .ok (.iconst 0, 1) := by decide +kernel
theorem dS_forget_2 : decode cS_forget 2 = .ok (.putfield 20, 3) := by decide +kernel
theorem dS_forget_5 : decode cS_forget 5 = .ok (.aload_n 0, 1) := by decide +kernel
theorem dS_forget_6 : decode cS_forget 6 = .ok (.iconst 0, 1) := by decide +kernel
theorem dS_forget_7 : decode cS_forget 7 = .ok (.putfield 27, 3) := by decide +kernel
theorem dS_forget_10 : decode cS_forget 10 = .ok (.aload_n 0, 1) := by decide +kernel
theorem dS_forget_11 : decode cS_forget 11 = .ok (.iconst 0, 1) := by decide +kernel
theorem dS_forget_12 : decode cS_forget 12 = .ok (.putfield 13, 3) := by decide +kernel
theorem dS_forget_15 : decode cS_forget 15 = .ok (.return_, 1) := by decide +kernel
end
section
theorem dC_tunePolls_0 : decode cC_tunePolls 0 = .ok (.aload_n 0, 1) := by decide +kernel
theorem dC_tunePolls_1 : decode cC_tunePolls 1 = .ok (.getfield 18, 3) := by decide +kernel
theorem dC_tunePolls_4 : decode cC_tunePolls 4 = .ok (.aload_n 0, 1) := by decide +kernel
theorem dC_tunePolls_5 : decode cC_tunePolls 5 = .ok (.getfield 26, 3) := by decide +kernel
theorem dC_tunePolls_8 : decode cC_tunePolls 8 = .ok (.aload_n 0, 1) := by decide +kernel
theorem dC_tunePolls_9 : decode cC_tunePolls 9 = .ok (.getfield 18, 3) := by decide +kernel
theorem dC_tunePolls_12 : decode cC_tunePolls 12 = .ok (.invokevirtual 159, 3) := by decide +kernel
theorem dC_tunePolls_15 : decode cC_tunePolls 15 = .ok (.aaload, 1) := by decide +kernel
theorem dC_tunePolls_16 : decode cC_tunePolls 16 = .ok (.aload_n 0, 1) := by decide +kernel
theorem dC_tunePolls_17 : decode cC_tunePolls 17 = .ok (.getfield 30, 3) := by decide +kernel
theorem dC_tunePolls_20 : decode cC_tunePolls 20 = .ok (.invokevirtual 128, 3) := by decide +kernel
theorem dC_tunePolls_23 : decode cC_tunePolls 23 = .ok (.lstore_n 3, 1) := by decide +kernel
theorem dC_tunePolls_24 : decode cC_tunePolls 24 = .ok (.lload_n 1, 1) := by decide +kernel
theorem dC_tunePolls_25 : decode cC_tunePolls 25 = .ok (.ldc2_w 209, 3) := by decide +kernel
theorem dC_tunePolls_28 : decode cC_tunePolls 28 = .ok (.lload_n 3, 1) := by decide +kernel
theorem dC_tunePolls_29 : decode cC_tunePolls 29 = .ok (.lmul, 1) := by decide +kernel
theorem dC_tunePolls_30 : decode cC_tunePolls 30 = .ok (.ldc2_w 186, 3) := by decide +kernel
theorem dC_tunePolls_33 : decode cC_tunePolls 33 = .ok (.ladd, 1) := by decide +kernel
theorem dC_tunePolls_34 : decode cC_tunePolls 34 = .ok (.lcmp, 1) := by decide +kernel
theorem dC_tunePolls_35 : decode cC_tunePolls 35 = .ok (.ifCond .gt 7, 3) := by decide +kernel
theorem dC_tunePolls_38 : decode cC_tunePolls 38 = .ok (.iconst 1, 1) := by decide +kernel
theorem dC_tunePolls_39 : decode cC_tunePolls 39 = .ok (.goto 4, 3) := by decide +kernel
theorem dC_tunePolls_42 : decode cC_tunePolls 42 = .ok (.iconst 0, 1) := by decide +kernel
theorem dC_tunePolls_43 : decode cC_tunePolls 43 = .ok (.istore 5, 2) := by decide +kernel
theorem dC_tunePolls_45 : decode cC_tunePolls 45 = .ok (.iconst 0, 1) := by decide +kernel
theorem dC_tunePolls_46 : decode cC_tunePolls 46 = .ok (.istore 6, 2) := by decide +kernel
theorem dC_tunePolls_48 : decode cC_tunePolls 48 = .ok (.iload 6, 2) := by decide +kernel
theorem dC_tunePolls_50 : decode cC_tunePolls 50 = .ok (.iconst 5, 1) := by decide +kernel
theorem dC_tunePolls_51 : decode cC_tunePolls 51 = .ok (.if_icmp .ge 52, 3) := by decide +kernel
theorem dC_tunePolls_54 : decode cC_tunePolls 54 = .ok (.iload 5, 2) := by decide +kernel
theorem dC_tunePolls_56 : decode cC_tunePolls 56 = .ok (.ifCond .ne 16, 3) := by decide +kernel
theorem dC_tunePolls_59 : decode cC_tunePolls 59 = .ok (.aload_n 0, 1) := by decide +kernel
theorem dC_tunePolls_60 : decode cC_tunePolls 60 = .ok (.getfield 18, 3) := by decide +kernel
theorem dC_tunePolls_63 : decode cC_tunePolls 63 = .ok (.iload 6, 2) := by decide +kernel
theorem dC_tunePolls_65 : decode cC_tunePolls 65 = .ok (.aaload, 1) := by decide +kernel
theorem dC_tunePolls_66 : decode cC_tunePolls 66 = .ok (.invokevirtual 211, 3) := by decide +kernel
theorem dC_tunePolls_69 : decode cC_tunePolls 69 = .ok (.goto 28, 3) := by decide +kernel
theorem dC_tunePolls_72 : decode cC_tunePolls 72 = .ok (.aload_n 0, 1) := by decide +kernel
theorem dC_tunePolls_73 : decode cC_tunePolls 73 = .ok (.getfield 26, 3) := by decide +kernel
theorem dC_tunePolls_76 : decode cC_tunePolls 76 = .ok (.getfield 153, 3) := by decide +kernel
theorem dC_tunePolls_79 : decode cC_tunePolls 79 = .ok (.iload 6, 2) := by decide +kernel
theorem dC_tunePolls_81 : decode cC_tunePolls 81 = .ok (.invokestatic 214, 3) := by decide +kernel
theorem dC_tunePolls_84 : decode cC_tunePolls 84 = .ok (.ifCond .eq 13, 3) := by decide +kernel
theorem dC_tunePolls_87 : decode cC_tunePolls 87 = .ok (.aload_n 0, 1) := by decide +kernel
theorem dC_tunePolls_88 : decode cC_tunePolls 88 = .ok (.getfield 18, 3) := by decide +kernel
theorem dC_tunePolls_91 : decode cC_tunePolls 91 = .ok (.iload 6, 2) := by decide +kernel
theorem dC_tunePolls_93 : decode cC_tunePolls 93 = .ok (.aaload, 1) := by decide +kernel
theorem dC_tunePolls_94 : decode cC_tunePolls 94 = .ok (.invokevirtual 218, 3) := by decide +kernel
theorem dC_tunePolls_97 : decode cC_tunePolls 97 = .ok (.iinc 6 1, 3) := by decide +kernel
theorem dC_tunePolls_100 : decode cC_tunePolls 100 = .ok (.goto (-52), 3) := by decide +kernel
theorem dC_tunePolls_103 : decode cC_tunePolls 103 = .ok (.return_, 1) := by decide +kernel
theorem dS_pollSooner_0 : decode cS_pollSooner 0 = .ok (.aload_n 0, 1) := by decide +kernel
theorem dS_pollSooner_1 : decode cS_pollSooner 1 = .ok (.iconst 4, 1) := by decide +kernel
theorem dS_pollSooner_2 : decode cS_pollSooner 2 = .ok (.aload_n 0, 1) := by decide +kernel
theorem dS_pollSooner_3 : decode cS_pollSooner 3 = .ok (.getfield 17, 3) := by decide +kernel
theorem dS_pollSooner_6 : decode cS_pollSooner 6 = .ok (.iconst 1, 1) := by decide +kernel
theorem dS_pollSooner_7 : decode cS_pollSooner 7 = .ok (.isub, 1) := by decide +kernel
theorem dS_pollSooner_8 : decode cS_pollSooner 8 = .ok (.invokestatic 64, 3) := by decide +kernel
theorem dS_pollSooner_11 : decode cS_pollSooner 11 = .ok (.putfield 17, 3) := by decide +kernel
theorem dS_pollSooner_14 : decode cS_pollSooner 14 = .ok (.return_, 1) := by decide +kernel
theorem dM_init_0 : decode cM_init 0 = .ok (.aload_n 0, 1) := by decide +kernel
theorem dM_init_1 : decode cM_init 1 = .ok (.invokespecial 1, 3) := by decide +kernel
theorem dM_init_4 : decode cM_init 4 = .ok (.aload_n 0, 1) := by decide +kernel
theorem dM_init_5 : decode cM_init 5 = .ok (.bipush 48, 2) := by decide +kernel
theorem dM_init_7 : decode cM_init 7 = .ok (.newarray .int, 2) := by decide +kernel
theorem dM_init_9 : decode cM_init 9 = .ok (.putfield 7, 3) := by decide +kernel
theorem dM_init_12 : decode cM_init 12 = .ok (.aload_n 0, 1) := by decide +kernel
theorem dM_init_13 : decode cM_init 13 = .ok (.iconst 5, 1) := by decide +kernel
theorem dM_init_14 : decode cM_init 14 = .ok (.newarray .boolean, 2) := by decide +kernel
theorem dM_init_16 : decode cM_init 16 = .ok (.putfield 13, 3) := by decide +kernel
theorem dM_init_19 : decode cM_init 19 = .ok (.aload_n 0, 1) := by decide +kernel
theorem dM_init_20 : decode cM_init 20 = .ok (.iconst 5, 1) := by decide +kernel
theorem dM_init_21 : decode cM_init 21 = .ok (.newarray .int, 2) := by decide +kernel
theorem dM_init_23 : decode cM_init 23 = .ok (.putfield 17, 3) := by decide +kernel
theorem dM_init_26 : decode cM_init 26 = .ok (.aload_n 0, 1) := by decide +kernel
theorem dM_init_27 : decode cM_init 27 = .ok (.iconst 5, 1) := by decide +kernel
theorem dM_init_28 : decode cM_init 28 = .ok (.newarray .int, 2) := by decide +kernel
theorem dM_init_30 : decode cM_init 30 = .ok (.putfield 20, 3) := by decide +kernel
theorem dM_init_33 : decode cM_init 33 = .ok (.aload_n 0, 1) := by decide +kernel
theorem dM_init_34 : decode cM_init 34 = .ok (.iconst 5, 1) := by decide +kernel
theorem dM_init_35 : decode cM_init 35 = .ok (.newarray .boolean, 2) := by decide +kernel
theorem dM_init_37 : decode cM_init 37 = .ok (.putfield 23, 3) := by decide +kernel
theorem dM_init_40 : decode cM_init 40 = .ok (.aload_n 0, 1) := by decide +kernel
theorem dM_init_41 : decode cM_init 41 = .ok (.iconst 5, 1) := by decide +kernel
theorem dM_init_42 : decode cM_init 42 = .ok (.newarray .long, 2) := by decide +kernel
theorem dM_init_44 : decode cM_init 44 = .ok (.putfield 26, 3) := by decide +kernel
theorem dM_init_47 : decode cM_init 47 = .ok (.aload_n 0, 1) := by decide +kernel
theorem dM_init_48 : decode cM_init 48 = .ok (.iconst 5, 1) := by decide +kernel
theorem dM_init_49 : decode cM_init 49 = .ok (.newarray .int, 2) := by decide +kernel
theorem dM_init_51 : decode cM_init 51 = .ok (.putfield 30, 3) := by decide +kernel
theorem dM_init_54 : decode cM_init 54 = .ok (.aload_n 0, 1) := by decide +kernel
theorem dM_init_55 : decode cM_init 55 = .ok (.iconst 5, 1) := by decide +kernel
theorem dM_init_56 : decode cM_init 56 = .ok (.newarray .long, 2) := by decide +kernel
theorem dM_init_58 : decode cM_init 58 = .ok (.putfield 33, 3) := by decide +kernel
theorem dM_init_61 : decode cM_init 61 = .ok (.aload_n 0, 1) := by decide +kernel
theorem dM_init_62 : decode cM_init 62 = .ok (.iconst 5, 1) := by decide +kernel
theorem dM_init_63 : decode cM_init 63 = .ok (.newarray .long, 2) := by decide +kernel
theorem dM_init_65 : decode cM_init 65 = .ok (.putfield 36, 3) := by decide +kernel
theorem dM_init_68 : decode cM_init 68 = .ok (.aload_n 0, 1) := by decide +kernel
theorem dM_init_69 : decode cM_init 69 = .ok (.iconst 5, 1) := by decide +kernel
theorem dM_init_70 : decode cM_init 70 = .ok (.newarray .int, 2) := by decide +kernel
theorem dM_init_72 : decode cM_init 72 = .ok (.putfield 39, 3) := by decide +kernel
theorem dM_init_75 : decode cM_init 75 = .ok (.aload_n 0, 1) := by decide +kernel
theorem dM_init_76 : decode cM_init 76 = .ok (.bipush 40, 2) := by decide +kernel
theorem dM_init_78 : decode cM_init 78 = .ok (.newarray .long, 2) := by decide +kernel
theorem dM_init_80 : decode cM_init 80 = .ok (.putfield 42, 3) := by decide +kernel
theorem dM_init_83 : decode cM_init 83 = .ok (.aload_n 0, 1) := by decide +kernel
theorem dM_init_84 : decode cM_init 84 = .ok (.bipush 40, 2) := by decide +kernel
theorem dM_init_86 : decode cM_init 86 = .ok (.newarray .long, 2) := by decide +kernel
theorem dM_init_88 : decode cM_init 88 = .ok (.putfield 45, 3) := by decide +kernel
theorem dM_init_91 : decode cM_init 91 = .ok (.aload_n 0, 1) := by decide +kernel
theorem dM_init_92 : decode cM_init 92 = .ok (.bipush 40, 2) := by decide +kernel
theorem dM_init_94 : decode cM_init 94 = .ok (.newarray .long, 2) := by decide +kernel
theorem dM_init_96 : decode cM_init 96 = .ok (.putfield 48, 3) := by decide +kernel
theorem dM_init_99 : decode cM_init 99 = .ok (.aload_n 0, 1) := by decide +kernel
theorem dM_init_100 : decode cM_init 100 = .ok (.iconst 5, 1) := by decide +kernel
theorem dM_init_101 : decode cM_init 101 = .ok (.newarray .boolean, 2) := by decide +kernel
theorem dM_init_103 : decode cM_init 103 = .ok (.putfield 51, 3) := by decide +kernel
theorem dM_init_106 : decode cM_init 106 = .ok (.iconst 0, 1) := by decide +kernel
theorem dM_init_107 : decode cM_init 107 = .ok (.istore_n 1, 1) := by decide +kernel
theorem dM_init_108 : decode cM_init 108 = .ok (.iload_n 1, 1) := by decide +kernel
theorem dM_init_109 : decode cM_init 109 = .ok (.iconst 5, 1) := by decide +kernel
theorem dM_init_110 : decode cM_init 110 = .ok (.if_icmp .ge 17, 3) := by decide +kernel
theorem dM_init_113 : decode cM_init 113 = .ok (.aload_n 0, 1) := by decide +kernel
theorem dM_init_114 : decode cM_init 114 = .ok (.getfield 20, 3) := by decide +kernel
theorem dM_init_117 : decode cM_init 117 = .ok (.iload_n 1, 1) := by decide +kernel
theorem dM_init_118 : decode cM_init 118 = .ok (.bipush 6, 2) := by decide +kernel
theorem dM_init_120 : decode cM_init 120 = .ok (.iastore, 1) := by decide +kernel
theorem dM_init_121 : decode cM_init 121 = .ok (.iinc 1 1, 3) := by decide +kernel
theorem dM_init_124 : decode cM_init 124 = .ok (.goto (-16), 3) := by decide +kernel
theorem dM_init_127 : decode cM_init 127 = .ok (.return_, 1) := by decide +kernel
theorem dM_thrown_0 : decode cM_thrown 0 = .ok (.aload_n 0, 1) := by decide +kernel
theorem dM_thrown_1 : decode cM_thrown 1 = .ok (.getfield 54, 3) := by decide +kernel
theorem dM_thrown_4 : decode cM_thrown 4 = .ok (.ireturn, 1) := by decide +kernel
theorem dM_run_0 : decode cM_run 0 = .ok (.aload_n 0, 1) := by decide +kernel
theorem dM_run_1 : decode cM_run 1 = .ok (.lload_n 1, 1) := by decide +kernel
theorem dM_run_2 : decode cM_run 2 = .ok (.lconst 0, 1) := by decide +kernel
theorem dM_run_3 : decode cM_run 3 = .ok (.lcmp, 1) := by decide +kernel
theorem dM_run_4 : decode cM_run 4 = .ok (.ifCond .lt 11, 3) := by decide +kernel
theorem dM_run_7 : decode cM_run 7 = .ok (.lload_n 1, 1) := by decide +kernel
theorem dM_run_8 : decode cM_run 8 = .ok (.ldc2_w 58, 3) := by decide +kernel
theorem dM_run_11 : decode cM_run 11 = .ok (.lcmp, 1) := by decide +kernel
theorem dM_run_12 : decode cM_run 12 = .ok (.ifCond .le 7, 3) := by decide +kernel
theorem dM_run_15 : decode cM_run 15 = .ok (.iconst 1, 1) := by decide +kernel
theorem dM_run_16 : decode cM_run 16 = .ok (.goto 4, 3) := by decide +kernel
theorem dM_run_19 : decode cM_run 19 = .ok (.iconst 0, 1) := by decide +kernel
theorem dM_run_20 : decode cM_run 20 = .ok (.putfield 54, 3) := by decide +kernel
theorem dM_run_23 : decode cM_run 23 = .ok (.aload_n 0, 1) := by decide +kernel
theorem dM_run_24 : decode cM_run 24 = .ok (.getfield 54, 3) := by decide +kernel
theorem dM_run_27 : decode cM_run 27 = .ok (.ifCond .le 4, 3) := by decide +kernel
theorem dM_run_30 : decode cM_run 30 = .ok (.return_, 1) := by decide +kernel
theorem dM_run_31 : decode cM_run 31 = .ok (.lload_n 1, 1) := by decide +kernel
theorem dM_run_32 : decode cM_run 32 = .ok (.ldc2_w 60, 3) := by decide +kernel
theorem dM_run_35 : decode cM_run 35 = .ok (.ldiv, 1) := by decide +kernel
theorem dM_run_36 : decode cM_run 36 = .ok (.lstore_n 3, 1) := by decide +kernel
theorem dM_run_37 : decode cM_run 37 = .ok (.aload_n 0, 1) := by decide +kernel
theorem dM_run_38 : decode cM_run 38 = .ok (.getfield 62, 3) := by decide +kernel
theorem dM_run_41 : decode cM_run 41 = .ok (.lload_n 3, 1) := by decide +kernel
theorem dM_run_42 : decode cM_run 42 = .ok (.lcmp, 1) := by decide +kernel
theorem dM_run_43 : decode cM_run 43 = .ok (.ifCond .le 7, 3) := by decide +kernel
theorem dM_run_46 : decode cM_run 46 = .ok (.lload_n 3, 1) := by decide +kernel
theorem dM_run_47 : decode cM_run 47 = .ok (.goto 22, 3) := by decide +kernel
theorem dM_run_50 : decode cM_run 50 = .ok (.aload_n 0, 1) := by decide +kernel
theorem dM_run_51 : decode cM_run 51 = .ok (.getfield 62, 3) := by decide +kernel
theorem dM_run_54 : decode cM_run 54 = .ok (.lload_n 3, 1) := by decide +kernel
theorem dM_run_55 : decode cM_run 55 = .ok (.lneg, 1) := by decide +kernel
theorem dM_run_56 : decode cM_run 56 = .ok (.lcmp, 1) := by decide +kernel
theorem dM_run_57 : decode cM_run 57 = .ok (.ifCond .ge 8, 3) := by decide +kernel
theorem dM_run_60 : decode cM_run 60 = .ok (.lload_n 3, 1) := by decide +kernel
theorem dM_run_61 : decode cM_run 61 = .ok (.lneg, 1) := by decide +kernel
theorem dM_run_62 : decode cM_run 62 = .ok (.goto 7, 3) := by decide +kernel
theorem dM_run_65 : decode cM_run 65 = .ok (.aload_n 0, 1) := by decide +kernel
theorem dM_run_66 : decode cM_run 66 = .ok (.getfield 62, 3) := by decide +kernel
theorem dM_run_69 : decode cM_run 69 = .ok (.lstore 5, 2) := by decide +kernel
theorem dM_run_71 : decode cM_run 71 = .ok (.aload_n 0, 1) := by decide +kernel
theorem dM_run_72 : decode cM_run 72 = .ok (.aload_n 0, 1) := by decide +kernel
theorem dM_run_73 : decode cM_run 73 = .ok (.getfield 66, 3) := by decide +kernel
theorem dM_run_76 : decode cM_run 76 = .ok (.lload_n 1, 1) := by decide +kernel
theorem dM_run_77 : decode cM_run 77 = .ok (.ladd, 1) := by decide +kernel
theorem dM_run_78 : decode cM_run 78 = .ok (.lload 5, 2) := by decide +kernel
theorem dM_run_80 : decode cM_run 80 = .ok (.ladd, 1) := by decide +kernel
theorem dM_run_81 : decode cM_run 81 = .ok (.putfield 66, 3) := by decide +kernel
theorem dM_run_84 : decode cM_run 84 = .ok (.aload_n 0, 1) := by decide +kernel
theorem dM_run_85 : decode cM_run 85 = .ok (.aload_n 0, 1) := by decide +kernel
theorem dM_run_86 : decode cM_run 86 = .ok (.getfield 62, 3) := by decide +kernel
theorem dM_run_89 : decode cM_run 89 = .ok (.lload 5, 2) := by decide +kernel
theorem dM_run_91 : decode cM_run 91 = .ok (.lsub, 1) := by decide +kernel
theorem dM_run_92 : decode cM_run 92 = .ok (.putfield 62, 3) := by decide +kernel
theorem dM_run_95 : decode cM_run 95 = .ok (.return_, 1) := by decide +kernel
theorem dM_local_0 : decode cM_local 0 = .ok (.aload_n 0, 1) := by decide +kernel
theorem dM_local_1 : decode cM_local 1 = .ok (.iconst 0, 1) := by decide +kernel
theorem dM_local_2 : decode cM_local 2 = .ok (.putfield 54, 3) := by decide +kernel
theorem dM_local_5 : decode cM_local 5 = .ok (.aload_n 0, 1) := by decide +kernel
theorem dM_local_6 : decode cM_local 6 = .ok (.getfield 66, 3) := by decide +kernel
theorem dM_local_9 : decode cM_local 9 = .ok (.lreturn, 1) := by decide +kernel
theorem dM_slew_0 : decode cM_slew 0 = .ok (.aload_n 0, 1) := by decide +kernel
theorem dM_slew_1 : decode cM_slew 1 = .ok (.iconst 0, 1) := by decide +kernel
theorem dM_slew_2 : decode cM_slew 2 = .ok (.putfield 54, 3) := by decide +kernel
theorem dM_slew_5 : decode cM_slew 5 = .ok (.aload_n 0, 1) := by decide +kernel
theorem dM_slew_6 : decode cM_slew 6 = .ok (.getfield 62, 3) := by decide +kernel
theorem dM_slew_9 : decode cM_slew 9 = .ok (.lreturn, 1) := by decide +kernel
theorem dM_put_0 : decode cM_put 0 = .ok (.aload_n 0, 1) := by decide +kernel
theorem dM_put_1 : decode cM_put 1 = .ok (.iload 4, 2) := by decide +kernel
theorem dM_put_3 : decode cM_put 3 = .ok (.iconst 1, 1) := by decide +kernel
theorem dM_put_4 : decode cM_put 4 = .ok (.if_icmp .lt 10, 3) := by decide +kernel
theorem dM_put_7 : decode cM_put 7 = .ok (.iload 4, 2) := by decide +kernel
theorem dM_put_9 : decode cM_put 9 = .ok (.bipush 8, 2) := by decide +kernel
theorem dM_put_11 : decode cM_put 11 = .ok (.if_icmp .le 7, 3) := by decide +kernel
theorem dM_put_14 : decode cM_put 14 = .ok (.iconst 1, 1) := by decide +kernel
theorem dM_put_15 : decode cM_put 15 = .ok (.goto 21, 3) := by decide +kernel
theorem dM_put_18 : decode cM_put 18 = .ok (.iload_n 1, 1) := by decide +kernel
theorem dM_put_19 : decode cM_put 19 = .ok (.ifCond .lt 12, 3) := by decide +kernel
theorem dM_put_22 : decode cM_put 22 = .ok (.iload_n 1, 1) := by decide +kernel
theorem dM_put_23 : decode cM_put 23 = .ok (.bipush 48, 2) := by decide +kernel
theorem dM_put_25 : decode cM_put 25 = .ok (.iload 4, 2) := by decide +kernel
theorem dM_put_27 : decode cM_put 27 = .ok (.isub, 1) := by decide +kernel
theorem dM_put_28 : decode cM_put 28 = .ok (.if_icmp .le 7, 3) := by decide +kernel
theorem dM_put_31 : decode cM_put 31 = .ok (.iconst 2, 1) := by decide +kernel
theorem dM_put_32 : decode cM_put 32 = .ok (.goto 4, 3) := by decide +kernel
theorem dM_put_35 : decode cM_put 35 = .ok (.iconst 0, 1) := by decide +kernel
theorem dM_put_36 : decode cM_put 36 = .ok (.putfield 54, 3) := by decide +kernel
theorem dM_put_39 : decode cM_put 39 = .ok (.aload_n 0, 1) := by decide +kernel
theorem dM_put_40 : decode cM_put 40 = .ok (.getfield 54, 3) := by decide +kernel
theorem dM_put_43 : decode cM_put 43 = .ok (.ifCond .ne 11, 3) := by decide +kernel
theorem dM_put_46 : decode cM_put 46 = .ok (.aload_n 0, 1) := by decide +kernel
theorem dM_put_47 : decode cM_put 47 = .ok (.iload_n 1, 1) := by decide +kernel
theorem dM_put_48 : decode cM_put 48 = .ok (.lload_n 2, 1) := by decide +kernel
theorem dM_put_49 : decode cM_put 49 = .ok (.iload 4, 2) := by decide +kernel
theorem dM_put_51 : decode cM_put 51 = .ok (.invokevirtual 71, 3) := by decide +kernel
theorem dM_put_54 : decode cM_put 54 = .ok (.return_, 1) := by decide +kernel
theorem dM_write_0 : decode cM_write 0 = .ok (.iconst 0, 1) := by decide +kernel
theorem dM_write_1 : decode cM_write 1 = .ok (.istore 5, 2) := by decide +kernel
theorem dM_write_3 : decode cM_write 3 = .ok (.iload 5, 2) := by decide +kernel
theorem dM_write_5 : decode cM_write 5 = .ok (.iload 4, 2) := by decide +kernel
theorem dM_write_7 : decode cM_write 7 = .ok (.if_icmp .ge 35, 3) := by decide +kernel
theorem dM_write_10 : decode cM_write 10 = .ok (.aload_n 0, 1) := by decide +kernel
theorem dM_write_11 : decode cM_write 11 = .ok (.getfield 7, 3) := by decide +kernel
theorem dM_write_14 : decode cM_write 14 = .ok (.iload_n 1, 1) := by decide +kernel
theorem dM_write_15 : decode cM_write 15 = .ok (.iload 5, 2) := by decide +kernel
theorem dM_write_17 : decode cM_write 17 = .ok (.iadd, 1) := by decide +kernel
theorem dM_write_18 : decode cM_write 18 = .ok (.lload_n 2, 1) := by decide +kernel
theorem dM_write_19 : decode cM_write 19 = .ok (.bipush 8, 2) := by decide +kernel
theorem dM_write_21 : decode cM_write 21 = .ok (.iload 4, 2) := by decide +kernel
theorem dM_write_23 : decode cM_write 23 = .ok (.iconst 1, 1) := by decide +kernel
theorem dM_write_24 : decode cM_write 24 = .ok (.isub, 1) := by decide +kernel
theorem dM_write_25 : decode cM_write 25 = .ok (.iload 5, 2) := by decide +kernel
theorem dM_write_27 : decode cM_write 27 = .ok (.isub, 1) := by decide +kernel
theorem dM_write_28 : decode cM_write 28 = .ok (.imul, 1) := by decide +kernel
theorem dM_write_29 : decode cM_write 29 = .ok (.lushr, 1) := by decide +kernel
theorem dM_write_30 : decode cM_write 30 = .ok (.ldc2_w 69, 3) := by decide +kernel
theorem dM_write_33 : decode cM_write 33 = .ok (.land, 1) := by decide +kernel
theorem dM_write_34 : decode cM_write 34 = .ok (.l2i, 1) := by decide +kernel
theorem dM_write_35 : decode cM_write 35 = .ok (.iastore, 1) := by decide +kernel
theorem dM_write_36 : decode cM_write 36 = .ok (.iinc 5 1, 3) := by decide +kernel
theorem dM_write_39 : decode cM_write 39 = .ok (.goto (-36), 3) := by decide +kernel
theorem dM_write_42 : decode cM_write 42 = .ok (.return_, 1) := by decide +kernel
theorem dM_echo_0 : decode cM_echo 0 = .ok (.aload_n 0, 1) := by decide +kernel
theorem dM_echo_1 : decode cM_echo 1 = .ok (.iload_n 1, 1) := by decide +kernel
theorem dM_echo_2 : decode cM_echo 2 = .ok (.invokestatic 75, 3) := by decide +kernel
theorem dM_echo_5 : decode cM_echo 5 = .ok (.ifCond .ne 7, 3) := by decide +kernel
theorem dM_echo_8 : decode cM_echo 8 = .ok (.iconst 1, 1) := by decide +kernel
theorem dM_echo_9 : decode cM_echo 9 = .ok (.goto 17, 3) := by decide +kernel
theorem dM_echo_12 : decode cM_echo 12 = .ok (.aload_n 0, 1) := by decide +kernel
theorem dM_echo_13 : decode cM_echo 13 = .ok (.getfield 23, 3) := by decide +kernel
theorem dM_echo_16 : decode cM_echo 16 = .ok (.iload_n 1, 1) := by decide +kernel
theorem dM_echo_17 : decode cM_echo 17 = .ok (.baload, 1) := by decide +kernel
theorem dM_echo_18 : decode cM_echo 18 = .ok (.ifCond .ne 7, 3) := by decide +kernel
theorem dM_echo_21 : decode cM_echo 21 = .ok (.iconst 2, 1) := by decide +kernel
theorem dM_echo_22 : decode cM_echo 22 = .ok (.goto 4, 3) := by decide +kernel
theorem dM_echo_25 : decode cM_echo 25 = .ok (.iconst 0, 1) := by decide +kernel
theorem dM_echo_26 : decode cM_echo 26 = .ok (.putfield 54, 3) := by decide +kernel
theorem dM_echo_29 : decode cM_echo 29 = .ok (.aload_n 0, 1) := by decide +kernel
theorem dM_echo_30 : decode cM_echo 30 = .ok (.getfield 54, 3) := by decide +kernel
theorem dM_echo_33 : decode cM_echo 33 = .ok (.ifCond .le 4, 3) := by decide +kernel
theorem dM_echo_36 : decode cM_echo 36 = .ok (.return_, 1) := by decide +kernel
theorem dM_echo_37 : decode cM_echo 37 = .ok (.aload_n 0, 1) := by decide +kernel
theorem dM_echo_38 : decode cM_echo 38 = .ok (.getfield 7, 3) := by decide +kernel
theorem dM_echo_41 : decode cM_echo 41 = .ok (.iconst 0, 1) := by decide +kernel
theorem dM_echo_42 : decode cM_echo 42 = .ok (.bipush 36, 2) := by decide +kernel
theorem dM_echo_44 : decode cM_echo 44 = .ok (.iastore, 1) := by decide +kernel
theorem dM_echo_45 : decode cM_echo 45 = .ok (.aload_n 0, 1) := by decide +kernel
theorem dM_echo_46 : decode cM_echo 46 = .ok (.bipush 24, 2) := by decide +kernel
theorem dM_echo_48 : decode cM_echo 48 = .ok (.aload_n 0, 1) := by decide +kernel
theorem dM_echo_49 : decode cM_echo 49 = .ok (.getfield 26, 3) := by decide +kernel
theorem dM_echo_52 : decode cM_echo 52 = .ok (.iload_n 1, 1) := by decide +kernel
theorem dM_echo_53 : decode cM_echo 53 = .ok (.laload, 1) := by decide +kernel
theorem dM_echo_54 : decode cM_echo 54 = .ok (.bipush 8, 2) := by decide +kernel
theorem dM_echo_56 : decode cM_echo 56 = .ok (.invokevirtual 71, 3) := by decide +kernel
theorem dM_echo_59 : decode cM_echo 59 = .ok (.aload_n 0, 1) := by decide +kernel
theorem dM_echo_60 : decode cM_echo 60 = .ok (.bipush 32, 2) := by decide +kernel
theorem dM_echo_62 : decode cM_echo 62 = .ok (.aload_n 0, 1) := by decide +kernel
theorem dM_echo_63 : decode cM_echo 63 = .ok (.getfield 26, 3) := by decide +kernel
theorem dM_echo_66 : decode cM_echo 66 = .ok (.iload_n 1, 1) := by decide +kernel
theorem dM_echo_67 : decode cM_echo 67 = .ok (.laload, 1) := by decide +kernel
theorem dM_echo_68 : decode cM_echo 68 = .ok (.lload_n 2, 1) := by decide +kernel
theorem dM_echo_69 : decode cM_echo 69 = .ok (.ladd, 1) := by decide +kernel
theorem dM_echo_70 : decode cM_echo 70 = .ok (.bipush 8, 2) := by decide +kernel
theorem dM_echo_72 : decode cM_echo 72 = .ok (.invokevirtual 71, 3) := by decide +kernel
theorem dM_echo_75 : decode cM_echo 75 = .ok (.aload_n 0, 1) := by decide +kernel
theorem dM_echo_76 : decode cM_echo 76 = .ok (.bipush 40, 2) := by decide +kernel
theorem dM_echo_78 : decode cM_echo 78 = .ok (.aload_n 0, 1) := by decide +kernel
theorem dM_echo_79 : decode cM_echo 79 = .ok (.getfield 66, 3) := by decide +kernel
theorem dM_echo_82 : decode cM_echo 82 = .ok (.lload 4, 2) := by decide +kernel
theorem dM_echo_84 : decode cM_echo 84 = .ok (.ladd, 1) := by decide +kernel
theorem dM_echo_85 : decode cM_echo 85 = .ok (.bipush 8, 2) := by decide +kernel
theorem dM_echo_87 : decode cM_echo 87 = .ok (.invokevirtual 71, 3) := by decide +kernel
theorem dM_echo_90 : decode cM_echo 90 = .ok (.return_, 1) := by decide +kernel
theorem dM_isServer_0 : decode cM_isServer 0 = .ok (.iload_n 0, 1) := by decide +kernel
theorem dM_isServer_1 : decode cM_isServer 1 = .ok (.ifCond .lt 12, 3) := by decide +kernel
theorem dM_isServer_4 : decode cM_isServer 4 = .ok (.iload_n 0, 1) := by decide +kernel
theorem dM_isServer_5 : decode cM_isServer 5 = .ok (.iconst 5, 1) := by decide +kernel
theorem dM_isServer_6 : decode cM_isServer 6 = .ok (.if_icmp .ge 7, 3) := by decide +kernel
theorem dM_isServer_9 : decode cM_isServer 9 = .ok (.iconst 1, 1) := by decide +kernel
theorem dM_isServer_10 : decode cM_isServer 10 = .ok (.goto 4, 3) := by decide +kernel
theorem dM_isServer_13 : decode cM_isServer 13 = .ok (.iconst 0, 1) := by decide +kernel
theorem dM_isServer_14 : decode cM_isServer 14 = .ok (.ireturn, 1) := by decide +kernel
theorem dM_send_0 : decode cM_send 0 = .ok (.aload_n 0, 1) := by decide +kernel
theorem dM_send_1 : decode cM_send 1 = .ok (.iload_n 1, 1) := by decide +kernel
theorem dM_send_2 : decode cM_send 2 = .ok (.invokestatic 75, 3) := by decide +kernel
theorem dM_send_5 : decode cM_send 5 = .ok (.ifCond .ne 7, 3) := by decide +kernel
theorem dM_send_8 : decode cM_send 8 = .ok (.iconst 1, 1) := by decide +kernel
theorem dM_send_9 : decode cM_send 9 = .ok (.goto 17, 3) := by decide +kernel
theorem dM_send_12 : decode cM_send 12 = .ok (.aload_n 0, 1) := by decide +kernel
theorem dM_send_13 : decode cM_send 13 = .ok (.getfield 13, 3) := by decide +kernel
theorem dM_send_16 : decode cM_send 16 = .ok (.iload_n 1, 1) := by decide +kernel
theorem dM_send_17 : decode cM_send 17 = .ok (.baload, 1) := by decide +kernel
theorem dM_send_18 : decode cM_send 18 = .ok (.ifCond .eq 7, 3) := by decide +kernel
theorem dM_send_21 : decode cM_send 21 = .ok (.iconst 2, 1) := by decide +kernel
theorem dM_send_22 : decode cM_send 22 = .ok (.goto 4, 3) := by decide +kernel
theorem dM_send_25 : decode cM_send 25 = .ok (.iconst 0, 1) := by decide +kernel
theorem dM_send_26 : decode cM_send 26 = .ok (.putfield 54, 3) := by decide +kernel
theorem dM_send_29 : decode cM_send 29 = .ok (.aload_n 0, 1) := by decide +kernel
theorem dM_send_30 : decode cM_send 30 = .ok (.getfield 54, 3) := by decide +kernel
theorem dM_send_33 : decode cM_send 33 = .ok (.ifCond .le 5, 3) := by decide +kernel
theorem dM_send_36 : decode cM_send 36 = .ok (.lconst 0, 1) := by decide +kernel
theorem dM_send_37 : decode cM_send 37 = .ok (.lreturn, 1) := by decide +kernel
theorem dM_send_38 : decode cM_send 38 = .ok (.aload_n 0, 1) := by decide +kernel
theorem dM_send_39 : decode cM_send 39 = .ok (.getfield 17, 3) := by decide +kernel
theorem dM_send_42 : decode cM_send 42 = .ok (.iload_n 1, 1) := by decide +kernel
theorem dM_send_43 : decode cM_send 43 = .ok (.aload_n 0, 1) := by decide +kernel
theorem dM_send_44 : decode cM_send 44 = .ok (.getfield 17, 3) := by decide +kernel
theorem dM_send_47 : decode cM_send 47 = .ok (.iload_n 1, 1) := by decide +kernel
theorem dM_send_48 : decode cM_send 48 = .ok (.iaload, 1) := by decide +kernel
theorem dM_send_49 : decode cM_send 49 = .ok (.iconst 2, 1) := by decide +kernel
theorem dM_send_50 : decode cM_send 50 = .ok (.imul, 1) := by decide +kernel
theorem dM_send_51 : decode cM_send 51 = .ok (.sipush 256, 3) := by decide +kernel
theorem dM_send_54 : decode cM_send 54 = .ok (.irem, 1) := by decide +kernel
theorem dM_send_55 : decode cM_send 55 = .ok (.iastore, 1) := by decide +kernel
theorem dM_send_56 : decode cM_send 56 = .ok (.aload_n 0, 1) := by decide +kernel
theorem dM_send_57 : decode cM_send 57 = .ok (.getfield 23, 3) := by decide +kernel
theorem dM_send_60 : decode cM_send 60 = .ok (.iload_n 1, 1) := by decide +kernel
theorem dM_send_61 : decode cM_send 61 = .ok (.iconst 1, 1) := by decide +kernel
theorem dM_send_62 : decode cM_send 62 = .ok (.bastore, 1) := by decide +kernel
theorem dM_send_63 : decode cM_send 63 = .ok (.aload_n 0, 1) := by decide +kernel
theorem dM_send_64 : decode cM_send 64 = .ok (.getfield 26, 3) := by decide +kernel
theorem dM_send_67 : decode cM_send 67 = .ok (.iload_n 1, 1) := by decide +kernel
theorem dM_send_68 : decode cM_send 68 = .ok (.aload_n 0, 1) := by decide +kernel
theorem dM_send_69 : decode cM_send 69 = .ok (.getfield 66, 3) := by decide +kernel
theorem dM_send_72 : decode cM_send 72 = .ok (.lastore, 1) := by decide +kernel
theorem dM_send_73 : decode cM_send 73 = .ok (.aload_n 0, 1) := by decide +kernel
theorem dM_send_74 : decode cM_send 74 = .ok (.getfield 66, 3) := by decide +kernel
theorem dM_send_77 : decode cM_send 77 = .ok (.lreturn, 1) := by decide +kernel
end
section
theorem dM_receive_0 : decode cM_receive 0 = .ok (.aload_n 0, 1) := by decide +kernel
theorem dM_receive_1 : decode cM_receive 1 = .ok (.getfield 7, 3) := by decide +kernel
theorem dM_receive_4 : decode cM_receive 4 = .ok (.iconst 0, 1) := by decide +kernel
theorem dM_receive_5 : decode cM_receive 5 = .ok (.iaload, 1) := by decide +kernel
theorem dM_receive_6 : decode cM_receive 6 = .ok (.bipush 8, 2) := by decide +kernel
theorem dM_receive_8 : decode cM_receive 8 = .ok (.idiv, 1) := by decide +kernel
theorem dM_receive_9 : decode cM_receive 9 = .ok (.bipush 8, 2) := by decide +kernel
theorem dM_receive_11 : decode cM_receive 11 = .ok (.irem, 1) := by decide +kernel
theorem dM_receive_12 : decode cM_receive 12 = .ok (.iconst 4, 1) := by decide +kernel
theorem dM_receive_13 : decode cM_receive 13 = .ok (.if_icmp .ne 33, 3) := by decide +kernel
theorem dM_receive_16 : decode cM_receive 16 = .ok (.aload_n 0, 1) := by decide +kernel
theorem dM_receive_17 : decode cM_receive 17 = .ok (.getfield 7, 3) := by decide +kernel
theorem dM_receive_20 : decode cM_receive 20 = .ok (.iconst 0, 1) := by decide +kernel
theorem dM_receive_21 : decode cM_receive 21 = .ok (.iaload, 1) := by decide +kernel
theorem dM_receive_22 : decode cM_receive 22 = .ok (.bipush 8, 2) := by decide +kernel
theorem dM_receive_24 : decode cM_receive 24 = .ok (.irem, 1) := by decide +kernel
theorem dM_receive_25 : decode cM_receive 25 = .ok (.iconst 4, 1) := by decide +kernel
theorem dM_receive_26 : decode cM_receive 26 = .ok (.if_icmp .ne 20, 3) := by decide +kernel
theorem dM_receive_29 : decode cM_receive 29 = .ok (.aload_n 0, 1) := by decide +kernel
theorem dM_receive_30 : decode cM_receive 30 = .ok (.bipush 40, 2) := by decide +kernel
theorem dM_receive_32 : decode cM_receive 32 = .ok (.bipush 8, 2) := by decide +kernel
theorem dM_receive_34 : decode cM_receive 34 = .ok (.invokevirtual 79, 3) := by decide +kernel
theorem dM_receive_37 : decode cM_receive 37 = .ok (.lconst 0, 1) := by decide +kernel
theorem dM_receive_38 : decode cM_receive 38 = .ok (.lcmp, 1) := by decide +kernel
theorem dM_receive_39 : decode cM_receive 39 = .ok (.ifCond .eq 7, 3) := by decide +kernel
theorem dM_receive_42 : decode cM_receive 42 = .ok (.iconst 1, 1) := by decide +kernel
theorem dM_receive_43 : decode cM_receive 43 = .ok (.goto 4, 3) := by decide +kernel
theorem dM_receive_46 : decode cM_receive 46 = .ok (.iconst 0, 1) := by decide +kernel
theorem dM_receive_47 : decode cM_receive 47 = .ok (.istore_n 2, 1) := by decide +kernel
theorem dM_receive_48 : decode cM_receive 48 = .ok (.aload_n 0, 1) := by decide +kernel
theorem dM_receive_49 : decode cM_receive 49 = .ok (.iload_n 1, 1) := by decide +kernel
theorem dM_receive_50 : decode cM_receive 50 = .ok (.invokestatic 75, 3) := by decide +kernel
theorem dM_receive_53 : decode cM_receive 53 = .ok (.ifCond .ne 7, 3) := by decide +kernel
theorem dM_receive_56 : decode cM_receive 56 = .ok (.iconst 1, 1) := by decide +kernel
theorem dM_receive_57 : decode cM_receive 57 = .ok (.goto 52, 3) := by decide +kernel
theorem dM_receive_60 : decode cM_receive 60 = .ok (.iload_n 2, 1) := by decide +kernel
theorem dM_receive_61 : decode cM_receive 61 = .ok (.ifCond .ne 7, 3) := by decide +kernel
theorem dM_receive_64 : decode cM_receive 64 = .ok (.iconst 2, 1) := by decide +kernel
theorem dM_receive_65 : decode cM_receive 65 = .ok (.goto 44, 3) := by decide +kernel
theorem dM_receive_68 : decode cM_receive 68 = .ok (.aload_n 0, 1) := by decide +kernel
theorem dM_receive_69 : decode cM_receive 69 = .ok (.getfield 13, 3) := by decide +kernel
theorem dM_receive_72 : decode cM_receive 72 = .ok (.iload_n 1, 1) := by decide +kernel
theorem dM_receive_73 : decode cM_receive 73 = .ok (.baload, 1) := by decide +kernel
theorem dM_receive_74 : decode cM_receive 74 = .ok (.ifCond .ne 30, 3) := by decide +kernel
theorem dM_receive_77 : decode cM_receive 77 = .ok (.aload_n 0, 1) := by decide +kernel
theorem dM_receive_78 : decode cM_receive 78 = .ok (.getfield 23, 3) := by decide +kernel
theorem dM_receive_81 : decode cM_receive 81 = .ok (.iload_n 1, 1) := by decide +kernel
theorem dM_receive_82 : decode cM_receive 82 = .ok (.baload, 1) := by decide +kernel
theorem dM_receive_83 : decode cM_receive 83 = .ok (.ifCond .eq 21, 3) := by decide +kernel
theorem dM_receive_86 : decode cM_receive 86 = .ok (.aload_n 0, 1) := by decide +kernel
theorem dM_receive_87 : decode cM_receive 87 = .ok (.getfield 26, 3) := by decide +kernel
theorem dM_receive_90 : decode cM_receive 90 = .ok (.iload_n 1, 1) := by decide +kernel
theorem dM_receive_91 : decode cM_receive 91 = .ok (.laload, 1) := by decide +kernel
theorem dM_receive_92 : decode cM_receive 92 = .ok (.aload_n 0, 1) := by decide +kernel
theorem dM_receive_93 : decode cM_receive 93 = .ok (.bipush 24, 2) := by decide +kernel
theorem dM_receive_95 : decode cM_receive 95 = .ok (.bipush 8, 2) := by decide +kernel
theorem dM_receive_97 : decode cM_receive 97 = .ok (.invokevirtual 79, 3) := by decide +kernel
theorem dM_receive_100 : decode cM_receive 100 = .ok (.lcmp, 1) := by decide +kernel
theorem dM_receive_101 : decode cM_receive 101 = .ok (.ifCond .eq 7, 3) := by decide +kernel
theorem dM_receive_104 : decode cM_receive 104 = .ok (.iconst 3, 1) := by decide +kernel
theorem dM_receive_105 : decode cM_receive 105 = .ok (.goto 4, 3) := by decide +kernel
theorem dM_receive_108 : decode cM_receive 108 = .ok (.iconst 0, 1) := by decide +kernel
theorem dM_receive_109 : decode cM_receive 109 = .ok (.putfield 54, 3) := by decide +kernel
theorem dM_receive_112 : decode cM_receive 112 = .ok (.aload_n 0, 1) := by decide +kernel
theorem dM_receive_113 : decode cM_receive 113 = .ok (.getfield 54, 3) := by decide +kernel
theorem dM_receive_116 : decode cM_receive 116 = .ok (.ifCond .le 5, 3) := by decide +kernel
theorem dM_receive_119 : decode cM_receive 119 = .ok (.iconst 0, 1) := by decide +kernel
theorem dM_receive_120 : decode cM_receive 120 = .ok (.ireturn, 1) := by decide +kernel
theorem dM_receive_121 : decode cM_receive 121 = .ok (.aload_n 0, 1) := by decide +kernel
theorem dM_receive_122 : decode cM_receive 122 = .ok (.getfield 26, 3) := by decide +kernel
theorem dM_receive_125 : decode cM_receive 125 = .ok (.iload_n 1, 1) := by decide +kernel
theorem dM_receive_126 : decode cM_receive 126 = .ok (.laload, 1) := by decide +kernel
theorem dM_receive_127 : decode cM_receive 127 = .ok (.lstore_n 3, 1) := by decide +kernel
theorem dM_receive_128 : decode cM_receive 128 = .ok (.aload_n 0, 1) := by decide +kernel
theorem dM_receive_129 : decode cM_receive 129 = .ok (.getfield 23, 3) := by decide +kernel
theorem dM_receive_132 : decode cM_receive 132 = .ok (.iload_n 1, 1) := by decide +kernel
theorem dM_receive_133 : decode cM_receive 133 = .ok (.iconst 0, 1) := by decide +kernel
theorem dM_receive_134 : decode cM_receive 134 = .ok (.bastore, 1) := by decide +kernel
theorem dM_receive_135 : decode cM_receive 135 = .ok (.aload_n 0, 1) := by decide +kernel
theorem dM_receive_136 : decode cM_receive 136 = .ok (.getfield 7, 3) := by decide +kernel
theorem dM_receive_139 : decode cM_receive 139 = .ok (.iconst 1, 1) := by decide +kernel
theorem dM_receive_140 : decode cM_receive 140 = .ok (.iaload, 1) := by decide +kernel
theorem dM_receive_141 : decode cM_receive 141 = .ok (.ifCond .ne 9, 3) := by decide +kernel
theorem dM_receive_144 : decode cM_receive 144 = .ok (.aload_n 0, 1) := by decide +kernel
theorem dM_receive_145 : decode cM_receive 145 = .ok (.iload_n 1, 1) := by decide +kernel
theorem dM_receive_146 : decode cM_receive 146 = .ok (.invokevirtual 89, 3) := by decide +kernel
theorem dM_receive_149 : decode cM_receive 149 = .ok (.ireturn, 1) := by decide +kernel
theorem dM_receive_150 : decode cM_receive 150 = .ok (.aload_n 0, 1) := by decide +kernel
theorem dM_receive_151 : decode cM_receive 151 = .ok (.getfield 7, 3) := by decide +kernel
theorem dM_receive_154 : decode cM_receive 154 = .ok (.iconst 0, 1) := by decide +kernel
theorem dM_receive_155 : decode cM_receive 155 = .ok (.iaload, 1) := by decide +kernel
theorem dM_receive_156 : decode cM_receive 156 = .ok (.bipush 64, 2) := by decide +kernel
theorem dM_receive_158 : decode cM_receive 158 = .ok (.idiv, 1) := by decide +kernel
theorem dM_receive_159 : decode cM_receive 159 = .ok (.iconst 3, 1) := by decide +kernel
theorem dM_receive_160 : decode cM_receive 160 = .ok (.if_icmp .eq 14, 3) := by decide +kernel
theorem dM_receive_163 : decode cM_receive 163 = .ok (.aload_n 0, 1) := by decide +kernel
theorem dM_receive_164 : decode cM_receive 164 = .ok (.getfield 7, 3) := by decide +kernel
theorem dM_receive_167 : decode cM_receive 167 = .ok (.iconst 1, 1) := by decide +kernel
theorem dM_receive_168 : decode cM_receive 168 = .ok (.iaload, 1) := by decide +kernel
theorem dM_receive_169 : decode cM_receive 169 = .ok (.bipush 15, 2) := by decide +kernel
theorem dM_receive_171 : decode cM_receive 171 = .ok (.if_icmp .le 5, 3) := by decide +kernel
theorem dM_receive_174 : decode cM_receive 174 = .ok (.iconst 1, 1) := by decide +kernel
theorem dM_receive_175 : decode cM_receive 175 = .ok (.ireturn, 1) := by decide +kernel
theorem dM_receive_176 : decode cM_receive 176 = .ok (.aload_n 0, 1) := by decide +kernel
theorem dM_receive_177 : decode cM_receive 177 = .ok (.bipush 32, 2) := by decide +kernel
theorem dM_receive_179 : decode cM_receive 179 = .ok (.bipush 8, 2) := by decide +kernel
theorem dM_receive_181 : decode cM_receive 181 = .ok (.invokevirtual 79, 3) := by decide +kernel
theorem dM_receive_184 : decode cM_receive 184 = .ok (.lstore 5, 2) := by decide +kernel
theorem dM_receive_186 : decode cM_receive 186 = .ok (.aload_n 0, 1) := by decide +kernel
theorem dM_receive_187 : decode cM_receive 187 = .ok (.bipush 40, 2) := by decide +kernel
theorem dM_receive_189 : decode cM_receive 189 = .ok (.bipush 8, 2) := by decide +kernel
theorem dM_receive_191 : decode cM_receive 191 = .ok (.invokevirtual 79, 3) := by decide +kernel
theorem dM_receive_194 : decode cM_receive 194 = .ok (.lstore 7, 2) := by decide +kernel
theorem dM_receive_196 : decode cM_receive 196 = .ok (.lload 5, 2) := by decide +kernel
theorem dM_receive_198 : decode cM_receive 198 = .ok (.lload_n 3, 1) := by decide +kernel
theorem dM_receive_199 : decode cM_receive 199 = .ok (.lsub, 1) := by decide +kernel
theorem dM_receive_200 : decode cM_receive 200 = .ok (.lload 7, 2) := by decide +kernel
theorem dM_receive_202 : decode cM_receive 202 = .ok (.aload_n 0, 1) := by decide +kernel
theorem dM_receive_203 : decode cM_receive 203 = .ok (.getfield 66, 3) := by decide +kernel
theorem dM_receive_206 : decode cM_receive 206 = .ok (.lsub, 1) := by decide +kernel
theorem dM_receive_207 : decode cM_receive 207 = .ok (.invokestatic 93, 3) := by decide +kernel
theorem dM_receive_210 : decode cM_receive 210 = .ok (.lstore 9, 2) := by decide +kernel
theorem dM_receive_212 : decode cM_receive 212 = .ok (.aload_n 0, 1) := by decide +kernel
theorem dM_receive_213 : decode cM_receive 213 = .ok (.getfield 66, 3) := by decide +kernel
theorem dM_receive_216 : decode cM_receive 216 = .ok (.lload_n 3, 1) := by decide +kernel
theorem dM_receive_217 : decode cM_receive 217 = .ok (.lsub, 1) := by decide +kernel
theorem dM_receive_218 : decode cM_receive 218 = .ok (.lload 7, 2) := by decide +kernel
theorem dM_receive_220 : decode cM_receive 220 = .ok (.lload 5, 2) := by decide +kernel
theorem dM_receive_222 : decode cM_receive 222 = .ok (.lsub, 1) := by decide +kernel
theorem dM_receive_223 : decode cM_receive 223 = .ok (.lsub, 1) := by decide +kernel
theorem dM_receive_224 : decode cM_receive 224 = .ok (.lstore 11, 2) := by decide +kernel
theorem dM_receive_226 : decode cM_receive 226 = .ok (.lload 11, 2) := by decide +kernel
theorem dM_receive_228 : decode cM_receive 228 = .ok (.ldc2_w 97, 3) := by decide +kernel
theorem dM_receive_231 : decode cM_receive 231 = .ok (.lcmp, 1) := by decide +kernel
theorem dM_receive_232 : decode cM_receive 232 = .ok (.ifCond .ge 9, 3) := by decide +kernel
theorem dM_receive_235 : decode cM_receive 235 = .ok (.ldc2_w 97, 3) := by decide +kernel
theorem dM_receive_238 : decode cM_receive 238 = .ok (.goto 5, 3) := by decide +kernel
theorem dM_receive_241 : decode cM_receive 241 = .ok (.lload 11, 2) := by decide +kernel
theorem dM_receive_243 : decode cM_receive 243 = .ok (.lstore 11, 2) := by decide +kernel
theorem dM_receive_245 : decode cM_receive 245 = .ok (.ldc2_w 99, 3) := by decide +kernel
theorem dM_receive_248 : decode cM_receive 248 = .ok (.lstore 13, 2) := by decide +kernel
theorem dM_receive_250 : decode cM_receive 250 = .ok (.lload 9, 2) := by decide +kernel
theorem dM_receive_252 : decode cM_receive 252 = .ok (.lload 13, 2) := by decide +kernel
theorem dM_receive_254 : decode cM_receive 254 = .ok (.lneg, 1) := by decide +kernel
theorem dM_receive_255 : decode cM_receive 255 = .ok (.lcmp, 1) := by decide +kernel
theorem dM_receive_256 : decode cM_receive 256 = .ok (.ifCond .lt 19, 3) := by decide +kernel
theorem dM_receive_259 : decode cM_receive 259 = .ok (.lload 9, 2) := by decide +kernel
theorem dM_receive_261 : decode cM_receive 261 = .ok (.lload 13, 2) := by decide +kernel
theorem dM_receive_263 : decode cM_receive 263 = .ok (.lcmp, 1) := by decide +kernel
theorem dM_receive_264 : decode cM_receive 264 = .ok (.ifCond .gt 11, 3) := by decide +kernel
theorem dM_receive_267 : decode cM_receive 267 = .ok (.lload 11, 2) := by decide +kernel
theorem dM_receive_269 : decode cM_receive 269 = .ok (.lload 13, 2) := by decide +kernel
theorem dM_receive_271 : decode cM_receive 271 = .ok (.lcmp, 1) := by decide +kernel
theorem dM_receive_272 : decode cM_receive 272 = .ok (.ifCond .le 5, 3) := by decide +kernel
theorem dM_receive_275 : decode cM_receive 275 = .ok (.iconst 3, 1) := by decide +kernel
theorem dM_receive_276 : decode cM_receive 276 = .ok (.ireturn, 1) := by decide +kernel
theorem dM_receive_277 : decode cM_receive 277 = .ok (.aload_n 0, 1) := by decide +kernel
theorem dM_receive_278 : decode cM_receive 278 = .ok (.getfield 30, 3) := by decide +kernel
theorem dM_receive_281 : decode cM_receive 281 = .ok (.iload_n 1, 1) := by decide +kernel
theorem dM_receive_282 : decode cM_receive 282 = .ok (.aload_n 0, 1) := by decide +kernel
theorem dM_receive_283 : decode cM_receive 283 = .ok (.getfield 7, 3) := by decide +kernel
theorem dM_receive_286 : decode cM_receive 286 = .ok (.iconst 1, 1) := by decide +kernel
theorem dM_receive_287 : decode cM_receive 287 = .ok (.iaload, 1) := by decide +kernel
theorem dM_receive_288 : decode cM_receive 288 = .ok (.iastore, 1) := by decide +kernel
theorem dM_receive_289 : decode cM_receive 289 = .ok (.aload_n 0, 1) := by decide +kernel
theorem dM_receive_290 : decode cM_receive 290 = .ok (.getfield 33, 3) := by decide +kernel
theorem dM_receive_293 : decode cM_receive 293 = .ok (.iload_n 1, 1) := by decide +kernel
theorem dM_receive_294 : decode cM_receive 294 = .ok (.aload_n 0, 1) := by decide +kernel
theorem dM_receive_295 : decode cM_receive 295 = .ok (.iconst 4, 1) := by decide +kernel
theorem dM_receive_296 : decode cM_receive 296 = .ok (.iconst 4, 1) := by decide +kernel
theorem dM_receive_297 : decode cM_receive 297 = .ok (.invokevirtual 79, 3) := by decide +kernel
theorem dM_receive_300 : decode cM_receive 300 = .ok (.ldc2_w 101, 3) := by decide +kernel
theorem dM_receive_303 : decode cM_receive 303 = .ok (.lmul, 1) := by decide +kernel
theorem dM_receive_304 : decode cM_receive 304 = .ok (.lastore, 1) := by decide +kernel
theorem dM_receive_305 : decode cM_receive 305 = .ok (.aload_n 0, 1) := by decide +kernel
theorem dM_receive_306 : decode cM_receive 306 = .ok (.getfield 36, 3) := by decide +kernel
theorem dM_receive_309 : decode cM_receive 309 = .ok (.iload_n 1, 1) := by decide +kernel
theorem dM_receive_310 : decode cM_receive 310 = .ok (.aload_n 0, 1) := by decide +kernel
theorem dM_receive_311 : decode cM_receive 311 = .ok (.bipush 8, 2) := by decide +kernel
theorem dM_receive_313 : decode cM_receive 313 = .ok (.iconst 4, 1) := by decide +kernel
theorem dM_receive_314 : decode cM_receive 314 = .ok (.invokevirtual 79, 3) := by decide +kernel
theorem dM_receive_317 : decode cM_receive 317 = .ok (.ldc2_w 101, 3) := by decide +kernel
theorem dM_receive_320 : decode cM_receive 320 = .ok (.lmul, 1) := by decide +kernel
theorem dM_receive_321 : decode cM_receive 321 = .ok (.lastore, 1) := by decide +kernel
theorem dM_receive_322 : decode cM_receive 322 = .ok (.aload_n 0, 1) := by decide +kernel
theorem dM_receive_323 : decode cM_receive 323 = .ok (.getfield 17, 3) := by decide +kernel
theorem dM_receive_326 : decode cM_receive 326 = .ok (.iload_n 1, 1) := by decide +kernel
theorem dM_receive_327 : decode cM_receive 327 = .ok (.aload_n 0, 1) := by decide +kernel
theorem dM_receive_328 : decode cM_receive 328 = .ok (.getfield 17, 3) := by decide +kernel
theorem dM_receive_331 : decode cM_receive 331 = .ok (.iload_n 1, 1) := by decide +kernel
theorem dM_receive_332 : decode cM_receive 332 = .ok (.iaload, 1) := by decide +kernel
theorem dM_receive_333 : decode cM_receive 333 = .ok (.iconst 2, 1) := by decide +kernel
theorem dM_receive_334 : decode cM_receive 334 = .ok (.irem, 1) := by decide +kernel
theorem dM_receive_335 : decode cM_receive 335 = .ok (.ifCond .ne 14, 3) := by decide +kernel
theorem dM_receive_338 : decode cM_receive 338 = .ok (.aload_n 0, 1) := by decide +kernel
theorem dM_receive_339 : decode cM_receive 339 = .ok (.getfield 17, 3) := by decide +kernel
theorem dM_receive_342 : decode cM_receive 342 = .ok (.iload_n 1, 1) := by decide +kernel
theorem dM_receive_343 : decode cM_receive 343 = .ok (.iaload, 1) := by decide +kernel
theorem dM_receive_344 : decode cM_receive 344 = .ok (.iconst 1, 1) := by decide +kernel
theorem dM_receive_345 : decode cM_receive 345 = .ok (.iadd, 1) := by decide +kernel
theorem dM_receive_346 : decode cM_receive 346 = .ok (.goto 9, 3) := by decide +kernel
theorem dM_receive_349 : decode cM_receive 349 = .ok (.aload_n 0, 1) := by decide +kernel
theorem dM_receive_350 : decode cM_receive 350 = .ok (.getfield 17, 3) := by decide +kernel
theorem dM_receive_353 : decode cM_receive 353 = .ok (.iload_n 1, 1) := by decide +kernel
theorem dM_receive_354 : decode cM_receive 354 = .ok (.iaload, 1) := by decide +kernel
theorem dM_receive_355 : decode cM_receive 355 = .ok (.iastore, 1) := by decide +kernel
theorem dM_receive_356 : decode cM_receive 356 = .ok (.bipush 7, 2) := by decide +kernel
theorem dM_receive_358 : decode cM_receive 358 = .ok (.istore 15, 2) := by decide +kernel
theorem dM_receive_360 : decode cM_receive 360 = .ok (.iload 15, 2) := by decide +kernel
theorem dM_receive_362 : decode cM_receive 362 = .ok (.ifCond .le 87, 3) := by decide +kernel
theorem dM_receive_365 : decode cM_receive 365 = .ok (.aload_n 0, 1) := by decide +kernel
theorem dM_receive_366 : decode cM_receive 366 = .ok (.getfield 42, 3) := by decide +kernel
theorem dM_receive_369 : decode cM_receive 369 = .ok (.bipush 8, 2) := by decide +kernel
theorem dM_receive_371 : decode cM_receive 371 = .ok (.iload_n 1, 1) := by decide +kernel
theorem dM_receive_372 : decode cM_receive 372 = .ok (.imul, 1) := by decide +kernel
theorem dM_receive_373 : decode cM_receive 373 = .ok (.iload 15, 2) := by decide +kernel
theorem dM_receive_375 : decode cM_receive 375 = .ok (.iadd, 1) := by decide +kernel
theorem dM_receive_376 : decode cM_receive 376 = .ok (.aload_n 0, 1) := by decide +kernel
theorem dM_receive_377 : decode cM_receive 377 = .ok (.getfield 42, 3) := by decide +kernel
theorem dM_receive_380 : decode cM_receive 380 = .ok (.bipush 8, 2) := by decide +kernel
theorem dM_receive_382 : decode cM_receive 382 = .ok (.iload_n 1, 1) := by decide +kernel
theorem dM_receive_383 : decode cM_receive 383 = .ok (.imul, 1) := by decide +kernel
theorem dM_receive_384 : decode cM_receive 384 = .ok (.iload 15, 2) := by decide +kernel
theorem dM_receive_386 : decode cM_receive 386 = .ok (.iadd, 1) := by decide +kernel
theorem dM_receive_387 : decode cM_receive 387 = .ok (.iconst 1, 1) := by decide +kernel
theorem dM_receive_388 : decode cM_receive 388 = .ok (.isub, 1) := by decide +kernel
theorem dM_receive_389 : decode cM_receive 389 = .ok (.laload, 1) := by decide +kernel
theorem dM_receive_390 : decode cM_receive 390 = .ok (.lastore, 1) := by decide +kernel
theorem dM_receive_391 : decode cM_receive 391 = .ok (.aload_n 0, 1) := by decide +kernel
theorem dM_receive_392 : decode cM_receive 392 = .ok (.getfield 45, 3) := by decide +kernel
theorem dM_receive_395 : decode cM_receive 395 = .ok (.bipush 8, 2) := by decide +kernel
theorem dM_receive_397 : decode cM_receive 397 = .ok (.iload_n 1, 1) := by decide +kernel
theorem dM_receive_398 : decode cM_receive 398 = .ok (.imul, 1) := by decide +kernel
theorem dM_receive_399 : decode cM_receive 399 = .ok (.iload 15, 2) := by decide +kernel
theorem dM_receive_401 : decode cM_receive 401 = .ok (.iadd, 1) := by decide +kernel
theorem dM_receive_402 : decode cM_receive 402 = .ok (.aload_n 0, 1) := by decide +kernel
theorem dM_receive_403 : decode cM_receive 403 = .ok (.getfield 45, 3) := by decide +kernel
theorem dM_receive_406 : decode cM_receive 406 = .ok (.bipush 8, 2) := by decide +kernel
theorem dM_receive_408 : decode cM_receive 408 = .ok (.iload_n 1, 1) := by decide +kernel
theorem dM_receive_409 : decode cM_receive 409 = .ok (.imul, 1) := by decide +kernel
theorem dM_receive_410 : decode cM_receive 410 = .ok (.iload 15, 2) := by decide +kernel
theorem dM_receive_412 : decode cM_receive 412 = .ok (.iadd, 1) := by decide +kernel
theorem dM_receive_413 : decode cM_receive 413 = .ok (.iconst 1, 1) := by decide +kernel
theorem dM_receive_414 : decode cM_receive 414 = .ok (.isub, 1) := by decide +kernel
theorem dM_receive_415 : decode cM_receive 415 = .ok (.laload, 1) := by decide +kernel
theorem dM_receive_416 : decode cM_receive 416 = .ok (.lastore, 1) := by decide +kernel
theorem dM_receive_417 : decode cM_receive 417 = .ok (.aload_n 0, 1) := by decide +kernel
theorem dM_receive_418 : decode cM_receive 418 = .ok (.getfield 48, 3) := by decide +kernel
theorem dM_receive_421 : decode cM_receive 421 = .ok (.bipush 8, 2) := by decide +kernel
theorem dM_receive_423 : decode cM_receive 423 = .ok (.iload_n 1, 1) := by decide +kernel
theorem dM_receive_424 : decode cM_receive 424 = .ok (.imul, 1) := by decide +kernel
theorem dM_receive_425 : decode cM_receive 425 = .ok (.iload 15, 2) := by decide +kernel
theorem dM_receive_427 : decode cM_receive 427 = .ok (.iadd, 1) := by decide +kernel
theorem dM_receive_428 : decode cM_receive 428 = .ok (.aload_n 0, 1) := by decide +kernel
theorem dM_receive_429 : decode cM_receive 429 = .ok (.getfield 48, 3) := by decide +kernel
theorem dM_receive_432 : decode cM_receive 432 = .ok (.bipush 8, 2) := by decide +kernel
theorem dM_receive_434 : decode cM_receive 434 = .ok (.iload_n 1, 1) := by decide +kernel
theorem dM_receive_435 : decode cM_receive 435 = .ok (.imul, 1) := by decide +kernel
theorem dM_receive_436 : decode cM_receive 436 = .ok (.iload 15, 2) := by decide +kernel
theorem dM_receive_438 : decode cM_receive 438 = .ok (.iadd, 1) := by decide +kernel
theorem dM_receive_439 : decode cM_receive 439 = .ok (.iconst 1, 1) := by decide +kernel
theorem dM_receive_440 : decode cM_receive 440 = .ok (.isub, 1) := by decide +kernel
theorem dM_receive_441 : decode cM_receive 441 = .ok (.laload, 1) := by decide +kernel
theorem dM_receive_442 : decode cM_receive 442 = .ok (.lastore, 1) := by decide +kernel
theorem dM_receive_443 : decode cM_receive 443 = .ok (.iinc 15 (-1), 3) := by decide +kernel
theorem dM_receive_446 : decode cM_receive 446 = .ok (.goto (-86), 3) := by decide +kernel
theorem dM_receive_449 : decode cM_receive 449 = .ok (.aload_n 0, 1) := by decide +kernel
theorem dM_receive_450 : decode cM_receive 450 = .ok (.getfield 42, 3) := by decide +kernel
theorem dM_receive_453 : decode cM_receive 453 = .ok (.bipush 8, 2) := by decide +kernel
theorem dM_receive_455 : decode cM_receive 455 = .ok (.iload_n 1, 1) := by decide +kernel
theorem dM_receive_456 : decode cM_receive 456 = .ok (.imul, 1) := by decide +kernel
theorem dM_receive_457 : decode cM_receive 457 = .ok (.lload 9, 2) := by decide +kernel
theorem dM_receive_459 : decode cM_receive 459 = .ok (.lastore, 1) := by decide +kernel
theorem dM_receive_460 : decode cM_receive 460 = .ok (.aload_n 0, 1) := by decide +kernel
theorem dM_receive_461 : decode cM_receive 461 = .ok (.getfield 45, 3) := by decide +kernel
theorem dM_receive_464 : decode cM_receive 464 = .ok (.bipush 8, 2) := by decide +kernel
theorem dM_receive_466 : decode cM_receive 466 = .ok (.iload_n 1, 1) := by decide +kernel
theorem dM_receive_467 : decode cM_receive 467 = .ok (.imul, 1) := by decide +kernel
theorem dM_receive_468 : decode cM_receive 468 = .ok (.lload 11, 2) := by decide +kernel
theorem dM_receive_470 : decode cM_receive 470 = .ok (.lastore, 1) := by decide +kernel
theorem dM_receive_471 : decode cM_receive 471 = .ok (.aload_n 0, 1) := by decide +kernel
theorem dM_receive_472 : decode cM_receive 472 = .ok (.getfield 48, 3) := by decide +kernel
theorem dM_receive_475 : decode cM_receive 475 = .ok (.bipush 8, 2) := by decide +kernel
theorem dM_receive_477 : decode cM_receive 477 = .ok (.iload_n 1, 1) := by decide +kernel
theorem dM_receive_478 : decode cM_receive 478 = .ok (.imul, 1) := by decide +kernel
theorem dM_receive_479 : decode cM_receive 479 = .ok (.aload_n 0, 1) := by decide +kernel
theorem dM_receive_480 : decode cM_receive 480 = .ok (.getfield 66, 3) := by decide +kernel
theorem dM_receive_483 : decode cM_receive 483 = .ok (.lastore, 1) := by decide +kernel
theorem dM_receive_484 : decode cM_receive 484 = .ok (.aload_n 0, 1) := by decide +kernel
theorem dM_receive_485 : decode cM_receive 485 = .ok (.getfield 39, 3) := by decide +kernel
theorem dM_receive_488 : decode cM_receive 488 = .ok (.iload_n 1, 1) := by decide +kernel
theorem dM_receive_489 : decode cM_receive 489 = .ok (.aload_n 0, 1) := by decide +kernel
theorem dM_receive_490 : decode cM_receive 490 = .ok (.getfield 39, 3) := by decide +kernel
theorem dM_receive_493 : decode cM_receive 493 = .ok (.iload_n 1, 1) := by decide +kernel
theorem dM_receive_494 : decode cM_receive 494 = .ok (.iaload, 1) := by decide +kernel
theorem dM_receive_495 : decode cM_receive 495 = .ok (.bipush 8, 2) := by decide +kernel
theorem dM_receive_497 : decode cM_receive 497 = .ok (.if_icmp .ge 14, 3) := by decide +kernel
theorem dM_receive_500 : decode cM_receive 500 = .ok (.aload_n 0, 1) := by decide +kernel
theorem dM_receive_501 : decode cM_receive 501 = .ok (.getfield 39, 3) := by decide +kernel
theorem dM_receive_504 : decode cM_receive 504 = .ok (.iload_n 1, 1) := by decide +kernel
theorem dM_receive_505 : decode cM_receive 505 = .ok (.iaload, 1) := by decide +kernel
theorem dM_receive_506 : decode cM_receive 506 = .ok (.iconst 1, 1) := by decide +kernel
theorem dM_receive_507 : decode cM_receive 507 = .ok (.iadd, 1) := by decide +kernel
theorem dM_receive_508 : decode cM_receive 508 = .ok (.goto 5, 3) := by decide +kernel
theorem dM_receive_511 : decode cM_receive 511 = .ok (.bipush 8, 2) := by decide +kernel
theorem dM_receive_513 : decode cM_receive 513 = .ok (.iastore, 1) := by decide +kernel
theorem dM_receive_514 : decode cM_receive 514 = .ok (.iconst 0, 1) := by decide +kernel
theorem dM_receive_515 : decode cM_receive 515 = .ok (.ireturn, 1) := by decide +kernel
theorem dM_read_0 : decode cM_read 0 = .ok (.lconst 0, 1) := by decide +kernel
theorem dM_read_1 : decode cM_read 1 = .ok (.lstore_n 3, 1) := by decide +kernel
theorem dM_read_2 : decode cM_read 2 = .ok (.iconst 0, 1) := by decide +kernel
theorem dM_read_3 : decode cM_read 3 = .ok (.istore 5, 2) := by decide +kernel
theorem dM_read_5 : decode cM_read 5 = .ok (.iload 5, 2) := by decide +kernel
theorem dM_read_7 : decode cM_read 7 = .ok (.iload_n 2, 1) := by decide +kernel
theorem dM_read_8 : decode cM_read 8 = .ok (.if_icmp .ge 25, 3) := by decide +kernel
theorem dM_read_11 : decode cM_read 11 = .ok (.lload_n 3, 1) := by decide +kernel
theorem dM_read_12 : decode cM_read 12 = .ok (.bipush 8, 2) := by decide +kernel
theorem dM_read_14 : decode cM_read 14 = .ok (.lshl, 1) := by decide +kernel
theorem dM_read_15 : decode cM_read 15 = .ok (.aload_n 0, 1) := by decide +kernel
theorem dM_read_16 : decode cM_read 16 = .ok (.getfield 7, 3) := by decide +kernel
theorem dM_read_19 : decode cM_read 19 = .ok (.iload_n 1, 1) := by decide +kernel
theorem dM_read_20 : decode cM_read 20 = .ok (.iload 5, 2) := by decide +kernel
theorem dM_read_22 : decode cM_read 22 = .ok (.iadd, 1) := by decide +kernel
theorem dM_read_23 : decode cM_read 23 = .ok (.iaload, 1) := by decide +kernel
theorem dM_read_24 : decode cM_read 24 = .ok (.i2l, 1) := by decide +kernel
theorem dM_read_25 : decode cM_read 25 = .ok (.lor, 1) := by decide +kernel
theorem dM_read_26 : decode cM_read 26 = .ok (.lstore_n 3, 1) := by decide +kernel
theorem dM_read_27 : decode cM_read 27 = .ok (.iinc 5 1, 3) := by decide +kernel
theorem dM_read_30 : decode cM_read 30 = .ok (.goto (-25), 3) := by decide +kernel
theorem dM_read_33 : decode cM_read 33 = .ok (.lload_n 3, 1) := by decide +kernel
theorem dM_read_34 : decode cM_read 34 = .ok (.lreturn, 1) := by decide +kernel
theorem dM_kiss_0 : decode cM_kiss 0 = .ok (.aload_n 0, 1) := by decide +kernel
theorem dM_kiss_1 : decode cM_kiss 1 = .ok (.bipush 12, 2) := by decide +kernel
theorem dM_kiss_3 : decode cM_kiss 3 = .ok (.iconst 4, 1) := by decide +kernel
theorem dM_kiss_4 : decode cM_kiss 4 = .ok (.invokevirtual 79, 3) := by decide +kernel
theorem dM_kiss_7 : decode cM_kiss 7 = .ok (.lstore_n 2, 1) := by decide +kernel
theorem dM_kiss_8 : decode cM_kiss 8 = .ok (.lload_n 2, 1) := by decide +kernel
theorem dM_kiss_9 : decode cM_kiss 9 = .ok (.ldc2_w 83, 3) := by decide +kernel
theorem dM_kiss_12 : decode cM_kiss 12 = .ok (.lcmp, 1) := by decide +kernel
theorem dM_kiss_13 : decode cM_kiss 13 = .ok (.ifCond .eq 11, 3) := by decide +kernel
theorem dM_kiss_16 : decode cM_kiss 16 = .ok (.lload_n 2, 1) := by decide +kernel
theorem dM_kiss_17 : decode cM_kiss 17 = .ok (.ldc2_w 85, 3) := by decide +kernel
theorem dM_kiss_20 : decode cM_kiss 20 = .ok (.lcmp, 1) := by decide +kernel
theorem dM_kiss_21 : decode cM_kiss 21 = .ok (.ifCond .ne 10, 3) := by decide +kernel
theorem dM_kiss_24 : decode cM_kiss 24 = .ok (.aload_n 0, 1) := by decide +kernel
theorem dM_kiss_25 : decode cM_kiss 25 = .ok (.getfield 13, 3) := by decide +kernel
theorem dM_kiss_28 : decode cM_kiss 28 = .ok (.iload_n 1, 1) := by decide +kernel
theorem dM_kiss_29 : decode cM_kiss 29 = .ok (.iconst 1, 1) := by decide +kernel
theorem dM_kiss_30 : decode cM_kiss 30 = .ok (.bastore, 1) := by decide +kernel
theorem dM_kiss_31 : decode cM_kiss 31 = .ok (.lload_n 2, 1) := by decide +kernel
theorem dM_kiss_32 : decode cM_kiss 32 = .ok (.ldc2_w 87, 3) := by decide +kernel
theorem dM_kiss_35 : decode cM_kiss 35 = .ok (.lcmp, 1) := by decide +kernel
theorem dM_kiss_36 : decode cM_kiss 36 = .ok (.ifCond .ne 24, 3) := by decide +kernel
theorem dM_kiss_39 : decode cM_kiss 39 = .ok (.aload_n 0, 1) := by decide +kernel
theorem dM_kiss_40 : decode cM_kiss 40 = .ok (.getfield 20, 3) := by decide +kernel
theorem dM_kiss_43 : decode cM_kiss 43 = .ok (.iload_n 1, 1) := by decide +kernel
theorem dM_kiss_44 : decode cM_kiss 44 = .ok (.iaload, 1) := by decide +kernel
theorem dM_kiss_45 : decode cM_kiss 45 = .ok (.bipush 10, 2) := by decide +kernel
theorem dM_kiss_47 : decode cM_kiss 47 = .ok (.if_icmp .ge 13, 3) := by decide +kernel
theorem dM_kiss_50 : decode cM_kiss 50 = .ok (.aload_n 0, 1) := by decide +kernel
theorem dM_kiss_51 : decode cM_kiss 51 = .ok (.getfield 20, 3) := by decide +kernel
theorem dM_kiss_54 : decode cM_kiss 54 = .ok (.iload_n 1, 1) := by decide +kernel
theorem dM_kiss_55 : decode cM_kiss 55 = .ok (.dup2, 1) := by decide +kernel
theorem dM_kiss_56 : decode cM_kiss 56 = .ok (.iaload, 1) := by decide +kernel
theorem dM_kiss_57 : decode cM_kiss 57 = .ok (.iconst 1, 1) := by decide +kernel
theorem dM_kiss_58 : decode cM_kiss 58 = .ok (.iadd, 1) := by decide +kernel
theorem dM_kiss_59 : decode cM_kiss 59 = .ok (.iastore, 1) := by decide +kernel
theorem dM_kiss_60 : decode cM_kiss 60 = .ok (.iconst 2, 1) := by decide +kernel
theorem dM_kiss_61 : decode cM_kiss 61 = .ok (.ireturn, 1) := by decide +kernel
theorem dM_half_0 : decode cM_half 0 = .ok (.lload_n 0, 1) := by decide +kernel
theorem dM_half_1 : decode cM_half 1 = .ok (.iconst 1, 1) := by decide +kernel
theorem dM_half_2 : decode cM_half 2 = .ok (.lshr, 1) := by decide +kernel
theorem dM_half_3 : decode cM_half 3 = .ok (.lload_n 2, 1) := by decide +kernel
theorem dM_half_4 : decode cM_half 4 = .ok (.iconst 1, 1) := by decide +kernel
theorem dM_half_5 : decode cM_half 5 = .ok (.lshr, 1) := by decide +kernel
theorem dM_half_6 : decode cM_half 6 = .ok (.ladd, 1) := by decide +kernel
theorem dM_half_7 : decode cM_half 7 = .ok (.lload_n 0, 1) := by decide +kernel
theorem dM_half_8 : decode cM_half 8 = .ok (.lload_n 2, 1) := by decide +kernel
theorem dM_half_9 : decode cM_half 9 = .ok (.land, 1) := by decide +kernel
theorem dM_half_10 : decode cM_half 10 = .ok (.lconst 1, 1) := by decide +kernel
theorem dM_half_11 : decode cM_half 11 = .ok (.land, 1) := by decide +kernel
theorem dM_half_12 : decode cM_half 12 = .ok (.ladd, 1) := by decide +kernel
theorem dM_half_13 : decode cM_half 13 = .ok (.lreturn, 1) := by decide +kernel
theorem dM_reach_0 : decode cM_reach 0 = .ok (.aload_n 0, 1) := by decide +kernel
theorem dM_reach_1 : decode cM_reach 1 = .ok (.iload_n 1, 1) := by decide +kernel
theorem dM_reach_2 : decode cM_reach 2 = .ok (.invokestatic 75, 3) := by decide +kernel
theorem dM_reach_5 : decode cM_reach 5 = .ok (.ifCond .eq 7, 3) := by decide +kernel
theorem dM_reach_8 : decode cM_reach 8 = .ok (.iconst 0, 1) := by decide +kernel
theorem dM_reach_9 : decode cM_reach 9 = .ok (.goto 4, 3) := by decide +kernel
theorem dM_reach_12 : decode cM_reach 12 = .ok (.iconst 1, 1) := by decide +kernel
theorem dM_reach_13 : decode cM_reach 13 = .ok (.putfield 54, 3) := by decide +kernel
theorem dM_reach_16 : decode cM_reach 16 = .ok (.aload_n 0, 1) := by decide +kernel
theorem dM_reach_17 : decode cM_reach 17 = .ok (.getfield 54, 3) := by decide +kernel
theorem dM_reach_20 : decode cM_reach 20 = .ok (.ifCond .le 7, 3) := by decide +kernel
theorem dM_reach_23 : decode cM_reach 23 = .ok (.iconst 0, 1) := by decide +kernel
theorem dM_reach_24 : decode cM_reach 24 = .ok (.goto 31, 3) := by decide +kernel
theorem dM_reach_27 : decode cM_reach 27 = .ok (.aload_n 0, 1) := by decide +kernel
theorem dM_reach_28 : decode cM_reach 28 = .ok (.getfield 13, 3) := by decide +kernel
theorem dM_reach_31 : decode cM_reach 31 = .ok (.iload_n 1, 1) := by decide +kernel
theorem dM_reach_32 : decode cM_reach 32 = .ok (.baload, 1) := by decide +kernel
theorem dM_reach_33 : decode cM_reach 33 = .ok (.ifCond .eq 16, 3) := by decide +kernel
theorem dM_reach_36 : decode cM_reach 36 = .ok (.aload_n 0, 1) := by decide +kernel
theorem dM_reach_37 : decode cM_reach 37 = .ok (.getfield 17, 3) := by decide +kernel
theorem dM_reach_40 : decode cM_reach 40 = .ok (.iload_n 1, 1) := by decide +kernel
theorem dM_reach_41 : decode cM_reach 41 = .ok (.iaload, 1) := by decide +kernel
theorem dM_reach_42 : decode cM_reach 42 = .ok (.sipush 256, 3) := by decide +kernel
theorem dM_reach_45 : decode cM_reach 45 = .ok (.iadd, 1) := by decide +kernel
theorem dM_reach_46 : decode cM_reach 46 = .ok (.goto 9, 3) := by decide +kernel
theorem dM_reach_49 : decode cM_reach 49 = .ok (.aload_n 0, 1) := by decide +kernel
theorem dM_reach_50 : decode cM_reach 50 = .ok (.getfield 17, 3) := by decide +kernel
theorem dM_reach_53 : decode cM_reach 53 = .ok (.iload_n 1, 1) := by decide +kernel
theorem dM_reach_54 : decode cM_reach 54 = .ok (.iaload, 1) := by decide +kernel
theorem dM_reach_55 : decode cM_reach 55 = .ok (.ireturn, 1) := by decide +kernel
theorem dM_poll_0 : decode cM_poll 0 = .ok (.aload_n 0, 1) := by decide +kernel
theorem dM_poll_1 : decode cM_poll 1 = .ok (.iload_n 1, 1) := by decide +kernel
theorem dM_poll_2 : decode cM_poll 2 = .ok (.invokestatic 75, 3) := by decide +kernel
theorem dM_poll_5 : decode cM_poll 5 = .ok (.ifCond .eq 7, 3) := by decide +kernel
theorem dM_poll_8 : decode cM_poll 8 = .ok (.iconst 0, 1) := by decide +kernel
theorem dM_poll_9 : decode cM_poll 9 = .ok (.goto 4, 3) := by decide +kernel
theorem dM_poll_12 : decode cM_poll 12 = .ok (.iconst 1, 1) := by decide +kernel
theorem dM_poll_13 : decode cM_poll 13 = .ok (.putfield 54, 3) := by decide +kernel
theorem dM_poll_16 : decode cM_poll 16 = .ok (.aload_n 0, 1) := by decide +kernel
theorem dM_poll_17 : decode cM_poll 17 = .ok (.getfield 54, 3) := by decide +kernel
theorem dM_poll_20 : decode cM_poll 20 = .ok (.ifCond .le 7, 3) := by decide +kernel
theorem dM_poll_23 : decode cM_poll 23 = .ok (.iconst 0, 1) := by decide +kernel
theorem dM_poll_24 : decode cM_poll 24 = .ok (.goto 9, 3) := by decide +kernel
theorem dM_poll_27 : decode cM_poll 27 = .ok (.aload_n 0, 1) := by decide +kernel
theorem dM_poll_28 : decode cM_poll 28 = .ok (.getfield 20, 3) := by decide +kernel
theorem dM_poll_31 : decode cM_poll 31 = .ok (.iload_n 1, 1) := by decide +kernel
theorem dM_poll_32 : decode cM_poll 32 = .ok (.iaload, 1) := by decide +kernel
theorem dM_poll_33 : decode cM_poll 33 = .ok (.ireturn, 1) := by decide +kernel
theorem dM_samples_0 : decode cM_samples 0 = .ok (.aload_n 0, 1) := by decide +kernel
theorem dM_samples_1 : decode cM_samples 1 = .ok (.iload_n 1, 1) := by decide +kernel
theorem dM_samples_2 : decode cM_samples 2 = .ok (.invokestatic 75, 3) := by decide +kernel
theorem dM_samples_5 : decode cM_samples 5 = .ok (.ifCond .eq 7, 3) := by decide +kernel
theorem dM_samples_8 : decode cM_samples 8 = .ok (.iconst 0, 1) := by decide +kernel
theorem dM_samples_9 : decode cM_samples 9 = .ok (.goto 4, 3) := by decide +kernel
theorem dM_samples_12 : decode cM_samples 12 = .ok (.iconst 1, 1) := by decide +kernel
theorem dM_samples_13 : decode cM_samples 13 = .ok (.putfield 54, 3) := by decide +kernel
theorem dM_samples_16 : decode cM_samples 16 = .ok (.aload_n 0, 1) := by decide +kernel
theorem dM_samples_17 : decode cM_samples 17 = .ok (.getfield 54, 3) := by decide +kernel
theorem dM_samples_20 : decode cM_samples 20 = .ok (.ifCond .le 7, 3) := by decide +kernel
theorem dM_samples_23 : decode cM_samples 23 = .ok (.iconst 0, 1) := by decide +kernel
theorem dM_samples_24 : decode cM_samples 24 = .ok (.goto 9, 3) := by decide +kernel
theorem dM_samples_27 : decode cM_samples 27 = .ok (.aload_n 0, 1) := by decide +kernel
theorem dM_samples_28 : decode cM_samples 28 = .ok (.getfield 39, 3) := by decide +kernel
theorem dM_samples_31 : decode cM_samples 31 = .ok (.iload_n 1, 1) := by decide +kernel
theorem dM_samples_32 : decode cM_samples 32 = .ok (.iaload, 1) := by decide +kernel
theorem dM_samples_33 : decode cM_samples 33 = .ok (.ireturn, 1) := by decide +kernel
theorem dM_offset_0 : decode cM_offset 0 = .ok (.aload_n 0, 1) := by decide +kernel
theorem dM_offset_1 : decode cM_offset 1 = .ok (.iload_n 1, 1) := by decide +kernel
theorem dM_offset_2 : decode cM_offset 2 = .ok (.invokevirtual 119, 3) := by decide +kernel
theorem dM_offset_5 : decode cM_offset 5 = .ok (.ifCond .eq 11, 3) := by decide +kernel
theorem dM_offset_8 : decode cM_offset 8 = .ok (.aload_n 0, 1) := by decide +kernel
theorem dM_offset_9 : decode cM_offset 9 = .ok (.iload_n 1, 1) := by decide +kernel
theorem dM_offset_10 : decode cM_offset 10 = .ok (.invokevirtual 122, 3) := by decide +kernel
theorem dM_offset_13 : decode cM_offset 13 = .ok (.goto 4, 3) := by decide +kernel
theorem dM_offset_16 : decode cM_offset 16 = .ok (.lconst 0, 1) := by decide +kernel
theorem dM_offset_17 : decode cM_offset 17 = .ok (.lreturn, 1) := by decide +kernel
theorem dM_shows_0 : decode cM_shows 0 = .ok (.aload_n 0, 1) := by decide +kernel
theorem dM_shows_1 : decode cM_shows 1 = .ok (.iload_n 1, 1) := by decide +kernel
theorem dM_shows_2 : decode cM_shows 2 = .ok (.invokestatic 75, 3) := by decide +kernel
theorem dM_shows_5 : decode cM_shows 5 = .ok (.ifCond .ne 7, 3) := by decide +kernel
theorem dM_shows_8 : decode cM_shows 8 = .ok (.iconst 1, 1) := by decide +kernel
theorem dM_shows_9 : decode cM_shows 9 = .ok (.goto 17, 3) := by decide +kernel
theorem dM_shows_12 : decode cM_shows 12 = .ok (.aload_n 0, 1) := by decide +kernel
theorem dM_shows_13 : decode cM_shows 13 = .ok (.getfield 39, 3) := by decide +kernel
theorem dM_shows_16 : decode cM_shows 16 = .ok (.iload_n 1, 1) := by decide +kernel
theorem dM_shows_17 : decode cM_shows 17 = .ok (.iaload, 1) := by decide +kernel
theorem dM_shows_18 : decode cM_shows 18 = .ok (.ifCond .ne 7, 3) := by decide +kernel
theorem dM_shows_21 : decode cM_shows 21 = .ok (.iconst 2, 1) := by decide +kernel
theorem dM_shows_22 : decode cM_shows 22 = .ok (.goto 4, 3) := by decide +kernel
theorem dM_shows_25 : decode cM_shows 25 = .ok (.iconst 0, 1) := by decide +kernel
theorem dM_shows_26 : decode cM_shows 26 = .ok (.putfield 54, 3) := by decide +kernel
theorem dM_shows_29 : decode cM_shows 29 = .ok (.aload_n 0, 1) := by decide +kernel
theorem dM_shows_30 : decode cM_shows 30 = .ok (.getfield 54, 3) := by decide +kernel
theorem dM_shows_33 : decode cM_shows 33 = .ok (.ifCond .ne 7, 3) := by decide +kernel
theorem dM_shows_36 : decode cM_shows 36 = .ok (.iconst 1, 1) := by decide +kernel
theorem dM_shows_37 : decode cM_shows 37 = .ok (.goto 4, 3) := by decide +kernel
theorem dM_shows_40 : decode cM_shows 40 = .ok (.iconst 0, 1) := by decide +kernel
theorem dM_shows_41 : decode cM_shows 41 = .ok (.ireturn, 1) := by decide +kernel
theorem dM_offsetOf_0 : decode cM_offsetOf 0 = .ok (.aload_n 0, 1) := by decide +kernel
theorem dM_offsetOf_1 : decode cM_offsetOf 1 = .ok (.getfield 42, 3) := by decide +kernel
theorem dM_offsetOf_4 : decode cM_offsetOf 4 = .ok (.aload_n 0, 1) := by decide +kernel
theorem dM_offsetOf_5 : decode cM_offsetOf 5 = .ok (.iload_n 1, 1) := by decide +kernel
theorem dM_offsetOf_6 : decode cM_offsetOf 6 = .ok (.invokevirtual 109, 3) := by decide +kernel
theorem dM_offsetOf_9 : decode cM_offsetOf 9 = .ok (.laload, 1) := by decide +kernel
theorem dM_offsetOf_10 : decode cM_offsetOf 10 = .ok (.lreturn, 1) := by decide +kernel
theorem dM_best_0 : decode cM_best 0 = .ok (.bipush 8, 2) := by decide +kernel
theorem dM_best_2 : decode cM_best 2 = .ok (.iload_n 1, 1) := by decide +kernel
theorem dM_best_3 : decode cM_best 3 = .ok (.imul, 1) := by decide +kernel
theorem dM_best_4 : decode cM_best 4 = .ok (.istore_n 2, 1) := by decide +kernel
theorem dM_best_5 : decode cM_best 5 = .ok (.bipush 8, 2) := by decide +kernel
theorem dM_best_7 : decode cM_best 7 = .ok (.iload_n 1, 1) := by decide +kernel
theorem dM_best_8 : decode cM_best 8 = .ok (.imul, 1) := by decide +kernel
theorem dM_best_9 : decode cM_best 9 = .ok (.istore_n 3, 1) := by decide +kernel
theorem dM_best_10 : decode cM_best 10 = .ok (.iload_n 3, 1) := by decide +kernel
theorem dM_best_11 : decode cM_best 11 = .ok (.bipush 8, 2) := by decide +kernel
theorem dM_best_13 : decode cM_best 13 = .ok (.iload_n 1, 1) := by decide +kernel
theorem dM_best_14 : decode cM_best 14 = .ok (.imul, 1) := by decide +kernel
theorem dM_best_15 : decode cM_best 15 = .ok (.aload_n 0, 1) := by decide +kernel
theorem dM_best_16 : decode cM_best 16 = .ok (.getfield 39, 3) := by decide +kernel
theorem dM_best_19 : decode cM_best 19 = .ok (.iload_n 1, 1) := by decide +kernel
theorem dM_best_20 : decode cM_best 20 = .ok (.iaload, 1) := by decide +kernel
theorem dM_best_21 : decode cM_best 21 = .ok (.iadd, 1) := by decide +kernel
theorem dM_best_22 : decode cM_best 22 = .ok (.if_icmp .ge 63, 3) := by decide +kernel
theorem dM_best_25 : decode cM_best 25 = .ok (.aload_n 0, 1) := by decide +kernel
theorem dM_best_26 : decode cM_best 26 = .ok (.getfield 45, 3) := by decide +kernel
theorem dM_best_29 : decode cM_best 29 = .ok (.iload_n 3, 1) := by decide +kernel
theorem dM_best_30 : decode cM_best 30 = .ok (.laload, 1) := by decide +kernel
theorem dM_best_31 : decode cM_best 31 = .ok (.ldc2_w 103, 3) := by decide +kernel
theorem dM_best_34 : decode cM_best 34 = .ok (.ldiv, 1) := by decide +kernel
theorem dM_best_35 : decode cM_best 35 = .ok (.aload_n 0, 1) := by decide +kernel
theorem dM_best_36 : decode cM_best 36 = .ok (.iload_n 3, 1) := by decide +kernel
theorem dM_best_37 : decode cM_best 37 = .ok (.invokevirtual 105, 3) := by decide +kernel
theorem dM_best_40 : decode cM_best 40 = .ok (.ladd, 1) := by decide +kernel
theorem dM_best_41 : decode cM_best 41 = .ok (.aload_n 0, 1) := by decide +kernel
theorem dM_best_42 : decode cM_best 42 = .ok (.getfield 45, 3) := by decide +kernel
theorem dM_best_45 : decode cM_best 45 = .ok (.iload_n 2, 1) := by decide +kernel
theorem dM_best_46 : decode cM_best 46 = .ok (.laload, 1) := by decide +kernel
theorem dM_best_47 : decode cM_best 47 = .ok (.ldc2_w 103, 3) := by decide +kernel
theorem dM_best_50 : decode cM_best 50 = .ok (.ldiv, 1) := by decide +kernel
theorem dM_best_51 : decode cM_best 51 = .ok (.aload_n 0, 1) := by decide +kernel
theorem dM_best_52 : decode cM_best 52 = .ok (.iload_n 2, 1) := by decide +kernel
theorem dM_best_53 : decode cM_best 53 = .ok (.invokevirtual 105, 3) := by decide +kernel
theorem dM_best_56 : decode cM_best 56 = .ok (.ladd, 1) := by decide +kernel
theorem dM_best_57 : decode cM_best 57 = .ok (.lcmp, 1) := by decide +kernel
theorem dM_best_58 : decode cM_best 58 = .ok (.ifCond .ge 7, 3) := by decide +kernel
theorem dM_best_61 : decode cM_best 61 = .ok (.iconst 1, 1) := by decide +kernel
theorem dM_best_62 : decode cM_best 62 = .ok (.goto 4, 3) := by decide +kernel
theorem dM_best_65 : decode cM_best 65 = .ok (.iconst 0, 1) := by decide +kernel
theorem dM_best_66 : decode cM_best 66 = .ok (.istore 4, 2) := by decide +kernel
theorem dM_best_68 : decode cM_best 68 = .ok (.iload 4, 2) := by decide +kernel
theorem dM_best_70 : decode cM_best 70 = .ok (.ifCond .eq 7, 3) := by decide +kernel
theorem dM_best_73 : decode cM_best 73 = .ok (.iload_n 3, 1) := by decide +kernel
theorem dM_best_74 : decode cM_best 74 = .ok (.goto 4, 3) := by decide +kernel
theorem dM_best_77 : decode cM_best 77 = .ok (.iload_n 2, 1) := by decide +kernel
theorem dM_best_78 : decode cM_best 78 = .ok (.istore_n 2, 1) := by decide +kernel
theorem dM_best_79 : decode cM_best 79 = .ok (.iinc 3 1, 3) := by decide +kernel
theorem dM_best_82 : decode cM_best 82 = .ok (.goto (-72), 3) := by decide +kernel
theorem dM_best_85 : decode cM_best 85 = .ok (.iload_n 2, 1) := by decide +kernel
theorem dM_best_86 : decode cM_best 86 = .ok (.ireturn, 1) := by decide +kernel
theorem dM_dispersion_0 : decode cM_dispersion 0 = .ok (.ldc2_w 101, 3) := by decide +kernel
theorem dM_dispersion_3 : decode cM_dispersion 3 = .ok (.aload_n 0, 1) := by decide +kernel
theorem dM_dispersion_4 : decode cM_dispersion 4 = .ok (.getfield 66, 3) := by decide +kernel
theorem dM_dispersion_7 : decode cM_dispersion 7 = .ok (.aload_n 0, 1) := by decide +kernel
theorem dM_dispersion_8 : decode cM_dispersion 8 = .ok (.getfield 48, 3) := by decide +kernel
theorem dM_dispersion_11 : decode cM_dispersion 11 = .ok (.iload_n 1, 1) := by decide +kernel
theorem dM_dispersion_12 : decode cM_dispersion 12 = .ok (.laload, 1) := by decide +kernel
theorem dM_dispersion_13 : decode cM_dispersion 13 = .ok (.lsub, 1) := by decide +kernel
theorem dM_dispersion_14 : decode cM_dispersion 14 = .ok (.ldc2_w 101, 3) := by decide +kernel
theorem dM_dispersion_17 : decode cM_dispersion 17 = .ok (.ldiv, 1) := by decide +kernel
theorem dM_dispersion_18 : decode cM_dispersion 18 = .ok (.ladd, 1) := by decide +kernel
theorem dM_dispersion_19 : decode cM_dispersion 19 = .ok (.lreturn, 1) := by decide +kernel
theorem dM_delay_0 : decode cM_delay 0 = .ok (.aload_n 0, 1) := by decide +kernel
theorem dM_delay_1 : decode cM_delay 1 = .ok (.iload_n 1, 1) := by decide +kernel
theorem dM_delay_2 : decode cM_delay 2 = .ok (.invokevirtual 119, 3) := by decide +kernel
theorem dM_delay_5 : decode cM_delay 5 = .ok (.ifCond .eq 16, 3) := by decide +kernel
theorem dM_delay_8 : decode cM_delay 8 = .ok (.aload_n 0, 1) := by decide +kernel
theorem dM_delay_9 : decode cM_delay 9 = .ok (.getfield 45, 3) := by decide +kernel
theorem dM_delay_12 : decode cM_delay 12 = .ok (.aload_n 0, 1) := by decide +kernel
theorem dM_delay_13 : decode cM_delay 13 = .ok (.iload_n 1, 1) := by decide +kernel
theorem dM_delay_14 : decode cM_delay 14 = .ok (.invokevirtual 109, 3) := by decide +kernel
theorem dM_delay_17 : decode cM_delay 17 = .ok (.laload, 1) := by decide +kernel
theorem dM_delay_18 : decode cM_delay 18 = .ok (.goto 4, 3) := by decide +kernel
theorem dM_delay_21 : decode cM_delay 21 = .ok (.lconst 0, 1) := by decide +kernel
theorem dM_delay_22 : decode cM_delay 22 = .ok (.lreturn, 1) := by decide +kernel
theorem dM_jitter_0 : decode cM_jitter 0 = .ok (.aload_n 0, 1) := by decide +kernel
theorem dM_jitter_1 : decode cM_jitter 1 = .ok (.iload_n 1, 1) := by decide +kernel
theorem dM_jitter_2 : decode cM_jitter 2 = .ok (.invokevirtual 119, 3) := by decide +kernel
theorem dM_jitter_5 : decode cM_jitter 5 = .ok (.ifCond .eq 11, 3) := by decide +kernel
theorem dM_jitter_8 : decode cM_jitter 8 = .ok (.aload_n 0, 1) := by decide +kernel
theorem dM_jitter_9 : decode cM_jitter 9 = .ok (.iload_n 1, 1) := by decide +kernel
theorem dM_jitter_10 : decode cM_jitter 10 = .ok (.invokevirtual 116, 3) := by decide +kernel
theorem dM_jitter_13 : decode cM_jitter 13 = .ok (.goto 4, 3) := by decide +kernel
theorem dM_jitter_16 : decode cM_jitter 16 = .ok (.lconst 0, 1) := by decide +kernel
theorem dM_jitter_17 : decode cM_jitter 17 = .ok (.lreturn, 1) := by decide +kernel
end
section
theorem dM_jitterOf_0 : decode cM_jitterOf 0 = .ok (.aload_n 0, 1) := by decide +kernel
theorem dM_jitterOf_1 : decode cM_jitterOf 1 = .ok (.getfield 42, 3) := by decide +kernel
theorem dM_jitterOf_4 : decode cM_jitterOf 4 = .ok (.aload_n 0, 1) := by decide +kernel
theorem dM_jitterOf_5 : decode cM_jitterOf 5 = .ok (.iload_n 1, 1) := by decide +kernel
theorem dM_jitterOf_6 : decode cM_jitterOf 6 = .ok (.invokevirtual 109, 3) := by decide +kernel
theorem dM_jitterOf_9 : decode cM_jitterOf 9 = .ok (.laload, 1) := by decide +kernel
theorem dM_jitterOf_10 : decode cM_jitterOf 10 = .ok (.lstore_n 2, 1) := by decide +kernel
theorem dM_jitterOf_11 : decode cM_jitterOf 11 = .ok (.lconst 0, 1) := by decide +kernel
theorem dM_jitterOf_12 : decode cM_jitterOf 12 = .ok (.lstore 4, 2) := by decide +kernel
theorem dM_jitterOf_14 : decode cM_jitterOf 14 = .ok (.bipush 8, 2) := by decide +kernel
theorem dM_jitterOf_16 : decode cM_jitterOf 16 = .ok (.iload_n 1, 1) := by decide +kernel
theorem dM_jitterOf_17 : decode cM_jitterOf 17 = .ok (.imul, 1) := by decide +kernel
theorem dM_jitterOf_18 : decode cM_jitterOf 18 = .ok (.istore 6, 2) := by decide +kernel
theorem dM_jitterOf_20 : decode cM_jitterOf 20 = .ok (.iload 6, 2) := by decide +kernel
theorem dM_jitterOf_22 : decode cM_jitterOf 22 = .ok (.bipush 8, 2) := by decide +kernel
theorem dM_jitterOf_24 : decode cM_jitterOf 24 = .ok (.iload_n 1, 1) := by decide +kernel
theorem dM_jitterOf_25 : decode cM_jitterOf 25 = .ok (.imul, 1) := by decide +kernel
theorem dM_jitterOf_26 : decode cM_jitterOf 26 = .ok (.aload_n 0, 1) := by decide +kernel
theorem dM_jitterOf_27 : decode cM_jitterOf 27 = .ok (.getfield 39, 3) := by decide +kernel
theorem dM_jitterOf_30 : decode cM_jitterOf 30 = .ok (.iload_n 1, 1) := by decide +kernel
theorem dM_jitterOf_31 : decode cM_jitterOf 31 = .ok (.iaload, 1) := by decide +kernel
theorem dM_jitterOf_32 : decode cM_jitterOf 32 = .ok (.iadd, 1) := by decide +kernel
theorem dM_jitterOf_33 : decode cM_jitterOf 33 = .ok (.if_icmp .ge 40, 3) := by decide +kernel
theorem dM_jitterOf_36 : decode cM_jitterOf 36 = .ok (.aload_n 0, 1) := by decide +kernel
theorem dM_jitterOf_37 : decode cM_jitterOf 37 = .ok (.getfield 42, 3) := by decide +kernel
theorem dM_jitterOf_40 : decode cM_jitterOf 40 = .ok (.iload 6, 2) := by decide +kernel
theorem dM_jitterOf_42 : decode cM_jitterOf 42 = .ok (.laload, 1) := by decide +kernel
theorem dM_jitterOf_43 : decode cM_jitterOf 43 = .ok (.lload_n 2, 1) := by decide +kernel
theorem dM_jitterOf_44 : decode cM_jitterOf 44 = .ok (.lsub, 1) := by decide +kernel
theorem dM_jitterOf_45 : decode cM_jitterOf 45 = .ok (.invokestatic 112, 3) := by decide +kernel
theorem dM_jitterOf_48 : decode cM_jitterOf 48 = .ok (.lstore 7, 2) := by decide +kernel
theorem dM_jitterOf_50 : decode cM_jitterOf 50 = .ok (.lload 7, 2) := by decide +kernel
theorem dM_jitterOf_52 : decode cM_jitterOf 52 = .ok (.lload 4, 2) := by decide +kernel
theorem dM_jitterOf_54 : decode cM_jitterOf 54 = .ok (.lcmp, 1) := by decide +kernel
theorem dM_jitterOf_55 : decode cM_jitterOf 55 = .ok (.ifCond .le 8, 3) := by decide +kernel
theorem dM_jitterOf_58 : decode cM_jitterOf 58 = .ok (.lload 7, 2) := by decide +kernel
theorem dM_jitterOf_60 : decode cM_jitterOf 60 = .ok (.goto 5, 3) := by decide +kernel
theorem dM_jitterOf_63 : decode cM_jitterOf 63 = .ok (.lload 4, 2) := by decide +kernel
theorem dM_jitterOf_65 : decode cM_jitterOf 65 = .ok (.lstore 4, 2) := by decide +kernel
theorem dM_jitterOf_67 : decode cM_jitterOf 67 = .ok (.iinc 6 1, 3) := by decide +kernel
theorem dM_jitterOf_70 : decode cM_jitterOf 70 = .ok (.goto (-50), 3) := by decide +kernel
theorem dM_jitterOf_73 : decode cM_jitterOf 73 = .ok (.lload 4, 2) := by decide +kernel
theorem dM_jitterOf_75 : decode cM_jitterOf 75 = .ok (.lreturn, 1) := by decide +kernel
theorem dM_size_0 : decode cM_size 0 = .ok (.lload_n 0, 1) := by decide +kernel
theorem dM_size_1 : decode cM_size 1 = .ok (.lconst 0, 1) := by decide +kernel
theorem dM_size_2 : decode cM_size 2 = .ok (.lcmp, 1) := by decide +kernel
theorem dM_size_3 : decode cM_size 3 = .ok (.ifCond .ge 8, 3) := by decide +kernel
theorem dM_size_6 : decode cM_size 6 = .ok (.lload_n 0, 1) := by decide +kernel
theorem dM_size_7 : decode cM_size 7 = .ok (.lneg, 1) := by decide +kernel
theorem dM_size_8 : decode cM_size 8 = .ok (.goto 4, 3) := by decide +kernel
theorem dM_size_11 : decode cM_size 11 = .ok (.lload_n 0, 1) := by decide +kernel
theorem dM_size_12 : decode cM_size 12 = .ok (.lreturn, 1) := by decide +kernel
theorem dM_distance_0 : decode cM_distance 0 = .ok (.aload_n 0, 1) := by decide +kernel
theorem dM_distance_1 : decode cM_distance 1 = .ok (.iload_n 1, 1) := by decide +kernel
theorem dM_distance_2 : decode cM_distance 2 = .ok (.invokevirtual 119, 3) := by decide +kernel
theorem dM_distance_5 : decode cM_distance 5 = .ok (.ifCond .eq 11, 3) := by decide +kernel
theorem dM_distance_8 : decode cM_distance 8 = .ok (.aload_n 0, 1) := by decide +kernel
theorem dM_distance_9 : decode cM_distance 9 = .ok (.iload_n 1, 1) := by decide +kernel
theorem dM_distance_10 : decode cM_distance 10 = .ok (.invokevirtual 125, 3) := by decide +kernel
theorem dM_distance_13 : decode cM_distance 13 = .ok (.goto 4, 3) := by decide +kernel
theorem dM_distance_16 : decode cM_distance 16 = .ok (.lconst 0, 1) := by decide +kernel
theorem dM_distance_17 : decode cM_distance 17 = .ok (.lreturn, 1) := by decide +kernel
theorem dM_distanceOf_0 : decode cM_distanceOf 0 = .ok (.aload_n 0, 1) := by decide +kernel
theorem dM_distanceOf_1 : decode cM_distanceOf 1 = .ok (.iload_n 1, 1) := by decide +kernel
theorem dM_distanceOf_2 : decode cM_distanceOf 2 = .ok (.invokevirtual 109, 3) := by decide +kernel
theorem dM_distanceOf_5 : decode cM_distanceOf 5 = .ok (.istore_n 2, 1) := by decide +kernel
theorem dM_distanceOf_6 : decode cM_distanceOf 6 = .ok (.aload_n 0, 1) := by decide +kernel
theorem dM_distanceOf_7 : decode cM_distanceOf 7 = .ok (.getfield 33, 3) := by decide +kernel
theorem dM_distanceOf_10 : decode cM_distanceOf 10 = .ok (.iload_n 1, 1) := by decide +kernel
theorem dM_distanceOf_11 : decode cM_distanceOf 11 = .ok (.laload, 1) := by decide +kernel
theorem dM_distanceOf_12 : decode cM_distanceOf 12 = .ok (.ldc2_w 103, 3) := by decide +kernel
theorem dM_distanceOf_15 : decode cM_distanceOf 15 = .ok (.ldiv, 1) := by decide +kernel
theorem dM_distanceOf_16 : decode cM_distanceOf 16 = .ok (.aload_n 0, 1) := by decide +kernel
theorem dM_distanceOf_17 : decode cM_distanceOf 17 = .ok (.getfield 45, 3) := by decide +kernel
theorem dM_distanceOf_20 : decode cM_distanceOf 20 = .ok (.iload_n 2, 1) := by decide +kernel
theorem dM_distanceOf_21 : decode cM_distanceOf 21 = .ok (.laload, 1) := by decide +kernel
theorem dM_distanceOf_22 : decode cM_distanceOf 22 = .ok (.ldc2_w 103, 3) := by decide +kernel
theorem dM_distanceOf_25 : decode cM_distanceOf 25 = .ok (.ldiv, 1) := by decide +kernel
theorem dM_distanceOf_26 : decode cM_distanceOf 26 = .ok (.ladd, 1) := by decide +kernel
theorem dM_distanceOf_27 : decode cM_distanceOf 27 = .ok (.aload_n 0, 1) := by decide +kernel
theorem dM_distanceOf_28 : decode cM_distanceOf 28 = .ok (.getfield 36, 3) := by decide +kernel
theorem dM_distanceOf_31 : decode cM_distanceOf 31 = .ok (.iload_n 1, 1) := by decide +kernel
theorem dM_distanceOf_32 : decode cM_distanceOf 32 = .ok (.laload, 1) := by decide +kernel
theorem dM_distanceOf_33 : decode cM_distanceOf 33 = .ok (.ladd, 1) := by decide +kernel
theorem dM_distanceOf_34 : decode cM_distanceOf 34 = .ok (.aload_n 0, 1) := by decide +kernel
theorem dM_distanceOf_35 : decode cM_distanceOf 35 = .ok (.iload_n 2, 1) := by decide +kernel
theorem dM_distanceOf_36 : decode cM_distanceOf 36 = .ok (.invokevirtual 105, 3) := by decide +kernel
theorem dM_distanceOf_39 : decode cM_distanceOf 39 = .ok (.ladd, 1) := by decide +kernel
theorem dM_distanceOf_40 : decode cM_distanceOf 40 = .ok (.aload_n 0, 1) := by decide +kernel
theorem dM_distanceOf_41 : decode cM_distanceOf 41 = .ok (.iload_n 1, 1) := by decide +kernel
theorem dM_distanceOf_42 : decode cM_distanceOf 42 = .ok (.invokevirtual 116, 3) := by decide +kernel
theorem dM_distanceOf_45 : decode cM_distanceOf 45 = .ok (.ladd, 1) := by decide +kernel
theorem dM_distanceOf_46 : decode cM_distanceOf 46 = .ok (.lreturn, 1) := by decide +kernel
theorem dM_candidates_0 : decode cM_candidates 0 = .ok (.aload_n 0, 1) := by decide +kernel
theorem dM_candidates_1 : decode cM_candidates 1 = .ok (.iconst 0, 1) := by decide +kernel
theorem dM_candidates_2 : decode cM_candidates 2 = .ok (.putfield 54, 3) := by decide +kernel
theorem dM_candidates_5 : decode cM_candidates 5 = .ok (.iconst 0, 1) := by decide +kernel
theorem dM_candidates_6 : decode cM_candidates 6 = .ok (.istore_n 1, 1) := by decide +kernel
theorem dM_candidates_7 : decode cM_candidates 7 = .ok (.iconst 0, 1) := by decide +kernel
theorem dM_candidates_8 : decode cM_candidates 8 = .ok (.istore_n 2, 1) := by decide +kernel
theorem dM_candidates_9 : decode cM_candidates 9 = .ok (.iload_n 2, 1) := by decide +kernel
theorem dM_candidates_10 : decode cM_candidates 10 = .ok (.iconst 5, 1) := by decide +kernel
theorem dM_candidates_11 : decode cM_candidates 11 = .ok (.if_icmp .ge 27, 3) := by decide +kernel
theorem dM_candidates_14 : decode cM_candidates 14 = .ok (.aload_n 0, 1) := by decide +kernel
theorem dM_candidates_15 : decode cM_candidates 15 = .ok (.iload_n 2, 1) := by decide +kernel
theorem dM_candidates_16 : decode cM_candidates 16 = .ok (.invokevirtual 130, 3) := by decide +kernel
theorem dM_candidates_19 : decode cM_candidates 19 = .ok (.ifCond .eq 11, 3) := by decide +kernel
theorem dM_candidates_22 : decode cM_candidates 22 = .ok (.iload_n 1, 1) := by decide +kernel
theorem dM_candidates_23 : decode cM_candidates 23 = .ok (.iconst 1, 1) := by decide +kernel
theorem dM_candidates_24 : decode cM_candidates 24 = .ok (.iload_n 2, 1) := by decide +kernel
theorem dM_candidates_25 : decode cM_candidates 25 = .ok (.ishl, 1) := by decide +kernel
theorem dM_candidates_26 : decode cM_candidates 26 = .ok (.iadd, 1) := by decide +kernel
theorem dM_candidates_27 : decode cM_candidates 27 = .ok (.goto 4, 3) := by decide +kernel
theorem dM_candidates_30 : decode cM_candidates 30 = .ok (.iload_n 1, 1) := by decide +kernel
theorem dM_candidates_31 : decode cM_candidates 31 = .ok (.istore_n 1, 1) := by decide +kernel
theorem dM_candidates_32 : decode cM_candidates 32 = .ok (.iinc 2 1, 3) := by decide +kernel
theorem dM_candidates_35 : decode cM_candidates 35 = .ok (.goto (-26), 3) := by decide +kernel
theorem dM_candidates_38 : decode cM_candidates 38 = .ok (.iload_n 1, 1) := by decide +kernel
theorem dM_candidates_39 : decode cM_candidates 39 = .ok (.ireturn, 1) := by decide +kernel
theorem dM_isCandidate_0 : decode cM_isCandidate 0 = .ok (.aload_n 0, 1) := by decide +kernel
theorem dM_isCandidate_1 : decode cM_isCandidate 1 = .ok (.getfield 13, 3) := by decide +kernel
theorem dM_isCandidate_4 : decode cM_isCandidate 4 = .ok (.iload_n 1, 1) := by decide +kernel
theorem dM_isCandidate_5 : decode cM_isCandidate 5 = .ok (.baload, 1) := by decide +kernel
theorem dM_isCandidate_6 : decode cM_isCandidate 6 = .ok (.ifCond .ne 37, 3) := by decide +kernel
theorem dM_isCandidate_9 : decode cM_isCandidate 9 = .ok (.aload_n 0, 1) := by decide +kernel
theorem dM_isCandidate_10 : decode cM_isCandidate 10 = .ok (.getfield 17, 3) := by decide +kernel
theorem dM_isCandidate_13 : decode cM_isCandidate 13 = .ok (.iload_n 1, 1) := by decide +kernel
theorem dM_isCandidate_14 : decode cM_isCandidate 14 = .ok (.iaload, 1) := by decide +kernel
theorem dM_isCandidate_15 : decode cM_isCandidate 15 = .ok (.ifCond .eq 28, 3) := by decide +kernel
theorem dM_isCandidate_18 : decode cM_isCandidate 18 = .ok (.aload_n 0, 1) := by decide +kernel
theorem dM_isCandidate_19 : decode cM_isCandidate 19 = .ok (.getfield 39, 3) := by decide +kernel
theorem dM_isCandidate_22 : decode cM_isCandidate 22 = .ok (.iload_n 1, 1) := by decide +kernel
theorem dM_isCandidate_23 : decode cM_isCandidate 23 = .ok (.iaload, 1) := by decide +kernel
theorem dM_isCandidate_24 : decode cM_isCandidate 24 = .ok (.ifCond .le 19, 3) := by decide +kernel
theorem dM_isCandidate_27 : decode cM_isCandidate 27 = .ok (.aload_n 0, 1) := by decide +kernel
theorem dM_isCandidate_28 : decode cM_isCandidate 28 = .ok (.iload_n 1, 1) := by decide +kernel
theorem dM_isCandidate_29 : decode cM_isCandidate 29 = .ok (.invokevirtual 125, 3) := by decide +kernel
theorem dM_isCandidate_32 : decode cM_isCandidate 32 = .ok (.ldc2_w 128, 3) := by decide +kernel
theorem dM_isCandidate_35 : decode cM_isCandidate 35 = .ok (.lcmp, 1) := by decide +kernel
theorem dM_isCandidate_36 : decode cM_isCandidate 36 = .ok (.ifCond .ge 7, 3) := by decide +kernel
theorem dM_isCandidate_39 : decode cM_isCandidate 39 = .ok (.iconst 1, 1) := by decide +kernel
theorem dM_isCandidate_40 : decode cM_isCandidate 40 = .ok (.goto 4, 3) := by decide +kernel
theorem dM_isCandidate_43 : decode cM_isCandidate 43 = .ok (.iconst 0, 1) := by decide +kernel
theorem dM_isCandidate_44 : decode cM_isCandidate 44 = .ok (.ireturn, 1) := by decide +kernel
theorem dM_low_0 : decode cM_low 0 = .ok (.aload_n 0, 1) := by decide +kernel
theorem dM_low_1 : decode cM_low 1 = .ok (.aload_n 0, 1) := by decide +kernel
theorem dM_low_2 : decode cM_low 2 = .ok (.invokevirtual 143, 3) := by decide +kernel
theorem dM_low_5 : decode cM_low 5 = .ok (.ifCond .eq 7, 3) := by decide +kernel
theorem dM_low_8 : decode cM_low 8 = .ok (.iconst 0, 1) := by decide +kernel
theorem dM_low_9 : decode cM_low 9 = .ok (.goto 4, 3) := by decide +kernel
theorem dM_low_12 : decode cM_low 12 = .ok (.iconst 1, 1) := by decide +kernel
theorem dM_low_13 : decode cM_low 13 = .ok (.putfield 54, 3) := by decide +kernel
theorem dM_low_16 : decode cM_low 16 = .ok (.aload_n 0, 1) := by decide +kernel
theorem dM_low_17 : decode cM_low 17 = .ok (.getfield 54, 3) := by decide +kernel
theorem dM_low_20 : decode cM_low 20 = .ok (.ifCond .le 7, 3) := by decide +kernel
theorem dM_low_23 : decode cM_low 23 = .ok (.lconst 0, 1) := by decide +kernel
theorem dM_low_24 : decode cM_low 24 = .ok (.goto 7, 3) := by decide +kernel
theorem dM_low_27 : decode cM_low 27 = .ok (.aload_n 0, 1) := by decide +kernel
theorem dM_low_28 : decode cM_low 28 = .ok (.getfield 137, 3) := by decide +kernel
theorem dM_low_31 : decode cM_low 31 = .ok (.lreturn, 1) := by decide +kernel
theorem dM_majority_0 : decode cM_majority 0 = .ok (.iconst 0, 1) := by decide +kernel
theorem dM_majority_1 : decode cM_majority 1 = .ok (.istore_n 1, 1) := by decide +kernel
theorem dM_majority_2 : decode cM_majority 2 = .ok (.iconst 0, 1) := by decide +kernel
theorem dM_majority_3 : decode cM_majority 3 = .ok (.istore_n 2, 1) := by decide +kernel
theorem dM_majority_4 : decode cM_majority 4 = .ok (.iload_n 2, 1) := by decide +kernel
theorem dM_majority_5 : decode cM_majority 5 = .ok (.iconst 5, 1) := by decide +kernel
theorem dM_majority_6 : decode cM_majority 6 = .ok (.if_icmp .ge 167, 3) := by decide +kernel
theorem dM_majority_9 : decode cM_majority 9 = .ok (.aload_n 0, 1) := by decide +kernel
theorem dM_majority_10 : decode cM_majority 10 = .ok (.iload_n 2, 1) := by decide +kernel
theorem dM_majority_11 : decode cM_majority 11 = .ok (.invokevirtual 130, 3) := by decide +kernel
theorem dM_majority_14 : decode cM_majority 14 = .ok (.ifCond .eq 153, 3) := by decide +kernel
theorem dM_majority_17 : decode cM_majority 17 = .ok (.aload_n 0, 1) := by decide +kernel
theorem dM_majority_18 : decode cM_majority 18 = .ok (.iload_n 2, 1) := by decide +kernel
theorem dM_majority_19 : decode cM_majority 19 = .ok (.invokevirtual 122, 3) := by decide +kernel
theorem dM_majority_22 : decode cM_majority 22 = .ok (.aload_n 0, 1) := by decide +kernel
theorem dM_majority_23 : decode cM_majority 23 = .ok (.iload_n 2, 1) := by decide +kernel
theorem dM_majority_24 : decode cM_majority 24 = .ok (.invokevirtual 125, 3) := by decide +kernel
theorem dM_majority_27 : decode cM_majority 27 = .ok (.lsub, 1) := by decide +kernel
theorem dM_majority_28 : decode cM_majority 28 = .ok (.lstore_n 3, 1) := by decide +kernel
theorem dM_majority_29 : decode cM_majority 29 = .ok (.aload_n 0, 1) := by decide +kernel
theorem dM_majority_30 : decode cM_majority 30 = .ok (.iload_n 2, 1) := by decide +kernel
theorem dM_majority_31 : decode cM_majority 31 = .ok (.invokevirtual 122, 3) := by decide +kernel
theorem dM_majority_34 : decode cM_majority 34 = .ok (.aload_n 0, 1) := by decide +kernel
theorem dM_majority_35 : decode cM_majority 35 = .ok (.iload_n 2, 1) := by decide +kernel
theorem dM_majority_36 : decode cM_majority 36 = .ok (.invokevirtual 125, 3) := by decide +kernel
theorem dM_majority_39 : decode cM_majority 39 = .ok (.ladd, 1) := by decide +kernel
theorem dM_majority_40 : decode cM_majority 40 = .ok (.lstore 5, 2) := by decide +kernel
theorem dM_majority_42 : decode cM_majority 42 = .ok (.aload_n 0, 1) := by decide +kernel
theorem dM_majority_43 : decode cM_majority 43 = .ok (.lload_n 3, 1) := by decide +kernel
theorem dM_majority_44 : decode cM_majority 44 = .ok (.invokevirtual 133, 3) := by decide +kernel
theorem dM_majority_47 : decode cM_majority 47 = .ok (.ifCond .eq 55, 3) := by decide +kernel
theorem dM_majority_50 : decode cM_majority 50 = .ok (.aload_n 0, 1) := by decide +kernel
theorem dM_majority_51 : decode cM_majority 51 = .ok (.iload_n 1, 1) := by decide +kernel
theorem dM_majority_52 : decode cM_majority 52 = .ok (.ifCond .eq 12, 3) := by decide +kernel
theorem dM_majority_55 : decode cM_majority 55 = .ok (.lload_n 3, 1) := by decide +kernel
theorem dM_majority_56 : decode cM_majority 56 = .ok (.aload_n 0, 1) := by decide +kernel
theorem dM_majority_57 : decode cM_majority 57 = .ok (.getfield 137, 3) := by decide +kernel
theorem dM_majority_60 : decode cM_majority 60 = .ok (.lcmp, 1) := by decide +kernel
theorem dM_majority_61 : decode cM_majority 61 = .ok (.ifCond .ge 7, 3) := by decide +kernel
theorem dM_majority_64 : decode cM_majority 64 = .ok (.lload_n 3, 1) := by decide +kernel
theorem dM_majority_65 : decode cM_majority 65 = .ok (.goto 7, 3) := by decide +kernel
theorem dM_majority_68 : decode cM_majority 68 = .ok (.aload_n 0, 1) := by decide +kernel
theorem dM_majority_69 : decode cM_majority 69 = .ok (.getfield 137, 3) := by decide +kernel
theorem dM_majority_72 : decode cM_majority 72 = .ok (.putfield 137, 3) := by decide +kernel
theorem dM_majority_75 : decode cM_majority 75 = .ok (.aload_n 0, 1) := by decide +kernel
theorem dM_majority_76 : decode cM_majority 76 = .ok (.iload_n 1, 1) := by decide +kernel
theorem dM_majority_77 : decode cM_majority 77 = .ok (.ifCond .eq 12, 3) := by decide +kernel
theorem dM_majority_80 : decode cM_majority 80 = .ok (.lload_n 3, 1) := by decide +kernel
theorem dM_majority_81 : decode cM_majority 81 = .ok (.aload_n 0, 1) := by decide +kernel
theorem dM_majority_82 : decode cM_majority 82 = .ok (.getfield 140, 3) := by decide +kernel
theorem dM_majority_85 : decode cM_majority 85 = .ok (.lcmp, 1) := by decide +kernel
theorem dM_majority_86 : decode cM_majority 86 = .ok (.ifCond .le 7, 3) := by decide +kernel
theorem dM_majority_89 : decode cM_majority 89 = .ok (.lload_n 3, 1) := by decide +kernel
theorem dM_majority_90 : decode cM_majority 90 = .ok (.goto 7, 3) := by decide +kernel
theorem dM_majority_93 : decode cM_majority 93 = .ok (.aload_n 0, 1) := by decide +kernel
theorem dM_majority_94 : decode cM_majority 94 = .ok (.getfield 140, 3) := by decide +kernel
theorem dM_majority_97 : decode cM_majority 97 = .ok (.putfield 140, 3) := by decide +kernel
theorem dM_majority_100 : decode cM_majority 100 = .ok (.iconst 1, 1) := by decide +kernel
theorem dM_majority_101 : decode cM_majority 101 = .ok (.istore_n 1, 1) := by decide +kernel
theorem dM_majority_102 : decode cM_majority 102 = .ok (.aload_n 0, 1) := by decide +kernel
theorem dM_majority_103 : decode cM_majority 103 = .ok (.lload 5, 2) := by decide +kernel
theorem dM_majority_105 : decode cM_majority 105 = .ok (.invokevirtual 133, 3) := by decide +kernel
theorem dM_majority_108 : decode cM_majority 108 = .ok (.ifCond .eq 59, 3) := by decide +kernel
theorem dM_majority_111 : decode cM_majority 111 = .ok (.aload_n 0, 1) := by decide +kernel
theorem dM_majority_112 : decode cM_majority 112 = .ok (.iload_n 1, 1) := by decide +kernel
theorem dM_majority_113 : decode cM_majority 113 = .ok (.ifCond .eq 13, 3) := by decide +kernel
theorem dM_majority_116 : decode cM_majority 116 = .ok (.lload 5, 2) := by decide +kernel
theorem dM_majority_118 : decode cM_majority 118 = .ok (.aload_n 0, 1) := by decide +kernel
theorem dM_majority_119 : decode cM_majority 119 = .ok (.getfield 137, 3) := by decide +kernel
theorem dM_majority_122 : decode cM_majority 122 = .ok (.lcmp, 1) := by decide +kernel
theorem dM_majority_123 : decode cM_majority 123 = .ok (.ifCond .ge 8, 3) := by decide +kernel
theorem dM_majority_126 : decode cM_majority 126 = .ok (.lload 5, 2) := by decide +kernel
theorem dM_majority_128 : decode cM_majority 128 = .ok (.goto 7, 3) := by decide +kernel
theorem dM_majority_131 : decode cM_majority 131 = .ok (.aload_n 0, 1) := by decide +kernel
theorem dM_majority_132 : decode cM_majority 132 = .ok (.getfield 137, 3) := by decide +kernel
theorem dM_majority_135 : decode cM_majority 135 = .ok (.putfield 137, 3) := by decide +kernel
theorem dM_majority_138 : decode cM_majority 138 = .ok (.aload_n 0, 1) := by decide +kernel
theorem dM_majority_139 : decode cM_majority 139 = .ok (.iload_n 1, 1) := by decide +kernel
theorem dM_majority_140 : decode cM_majority 140 = .ok (.ifCond .eq 13, 3) := by decide +kernel
theorem dM_majority_143 : decode cM_majority 143 = .ok (.lload 5, 2) := by decide +kernel
theorem dM_majority_145 : decode cM_majority 145 = .ok (.aload_n 0, 1) := by decide +kernel
theorem dM_majority_146 : decode cM_majority 146 = .ok (.getfield 140, 3) := by decide +kernel
theorem dM_majority_149 : decode cM_majority 149 = .ok (.lcmp, 1) := by decide +kernel
theorem dM_majority_150 : decode cM_majority 150 = .ok (.ifCond .le 8, 3) := by decide +kernel
theorem dM_majority_153 : decode cM_majority 153 = .ok (.lload 5, 2) := by decide +kernel
theorem dM_majority_155 : decode cM_majority 155 = .ok (.goto 7, 3) := by decide +kernel
theorem dM_majority_158 : decode cM_majority 158 = .ok (.aload_n 0, 1) := by decide +kernel
theorem dM_majority_159 : decode cM_majority 159 = .ok (.getfield 140, 3) := by decide +kernel
theorem dM_majority_162 : decode cM_majority 162 = .ok (.putfield 140, 3) := by decide +kernel
theorem dM_majority_165 : decode cM_majority 165 = .ok (.iconst 1, 1) := by decide +kernel
theorem dM_majority_166 : decode cM_majority 166 = .ok (.istore_n 1, 1) := by decide +kernel
theorem dM_majority_167 : decode cM_majority 167 = .ok (.iinc 2 1, 3) := by decide +kernel
theorem dM_majority_170 : decode cM_majority 170 = .ok (.goto (-166), 3) := by decide +kernel
theorem dM_majority_173 : decode cM_majority 173 = .ok (.iload_n 1, 1) := by decide +kernel
theorem dM_majority_174 : decode cM_majority 174 = .ok (.ireturn, 1) := by decide +kernel
theorem dM_isCommon_0 : decode cM_isCommon 0 = .ok (.iconst 0, 1) := by decide +kernel
theorem dM_isCommon_1 : decode cM_isCommon 1 = .ok (.istore_n 3, 1) := by decide +kernel
theorem dM_isCommon_2 : decode cM_isCommon 2 = .ok (.iconst 0, 1) := by decide +kernel
theorem dM_isCommon_3 : decode cM_isCommon 3 = .ok (.istore 4, 2) := by decide +kernel
theorem dM_isCommon_5 : decode cM_isCommon 5 = .ok (.iconst 0, 1) := by decide +kernel
theorem dM_isCommon_6 : decode cM_isCommon 6 = .ok (.istore 5, 2) := by decide +kernel
theorem dM_isCommon_8 : decode cM_isCommon 8 = .ok (.iload 5, 2) := by decide +kernel
theorem dM_isCommon_10 : decode cM_isCommon 10 = .ok (.iconst 5, 1) := by decide +kernel
theorem dM_isCommon_11 : decode cM_isCommon 11 = .ok (.if_icmp .ge 52, 3) := by decide +kernel
theorem dM_isCommon_14 : decode cM_isCommon 14 = .ok (.aload_n 0, 1) := by decide +kernel
theorem dM_isCommon_15 : decode cM_isCommon 15 = .ok (.iload 5, 2) := by decide +kernel
theorem dM_isCommon_17 : decode cM_isCommon 17 = .ok (.invokevirtual 130, 3) := by decide +kernel
theorem dM_isCommon_20 : decode cM_isCommon 20 = .ok (.ifCond .eq 37, 3) := by decide +kernel
theorem dM_isCommon_23 : decode cM_isCommon 23 = .ok (.iinc 3 1, 3) := by decide +kernel
theorem dM_isCommon_26 : decode cM_isCommon 26 = .ok (.iload 4, 2) := by decide +kernel
theorem dM_isCommon_28 : decode cM_isCommon 28 = .ok (.lload_n 1, 1) := by decide +kernel
theorem dM_isCommon_29 : decode cM_isCommon 29 = .ok (.aload_n 0, 1) := by decide +kernel
theorem dM_isCommon_30 : decode cM_isCommon 30 = .ok (.iload 5, 2) := by decide +kernel
theorem dM_isCommon_32 : decode cM_isCommon 32 = .ok (.invokevirtual 122, 3) := by decide +kernel
theorem dM_isCommon_35 : decode cM_isCommon 35 = .ok (.lsub, 1) := by decide +kernel
theorem dM_isCommon_36 : decode cM_isCommon 36 = .ok (.invokestatic 112, 3) := by decide +kernel
theorem dM_isCommon_39 : decode cM_isCommon 39 = .ok (.aload_n 0, 1) := by decide +kernel
theorem dM_isCommon_40 : decode cM_isCommon 40 = .ok (.iload 5, 2) := by decide +kernel
theorem dM_isCommon_42 : decode cM_isCommon 42 = .ok (.invokevirtual 125, 3) := by decide +kernel
theorem dM_isCommon_45 : decode cM_isCommon 45 = .ok (.lcmp, 1) := by decide +kernel
theorem dM_isCommon_46 : decode cM_isCommon 46 = .ok (.ifCond .gt 7, 3) := by decide +kernel
theorem dM_isCommon_49 : decode cM_isCommon 49 = .ok (.iconst 1, 1) := by decide +kernel
theorem dM_isCommon_50 : decode cM_isCommon 50 = .ok (.goto 4, 3) := by decide +kernel
theorem dM_isCommon_53 : decode cM_isCommon 53 = .ok (.iconst 0, 1) := by decide +kernel
theorem dM_isCommon_54 : decode cM_isCommon 54 = .ok (.iadd, 1) := by decide +kernel
theorem dM_isCommon_55 : decode cM_isCommon 55 = .ok (.istore 4, 2) := by decide +kernel
theorem dM_isCommon_57 : decode cM_isCommon 57 = .ok (.iinc 5 1, 3) := by decide +kernel
theorem dM_isCommon_60 : decode cM_isCommon 60 = .ok (.goto (-52), 3) := by decide +kernel
theorem dM_isCommon_63 : decode cM_isCommon 63 = .ok (.iconst 2, 1) := by decide +kernel
theorem dM_isCommon_64 : decode cM_isCommon 64 = .ok (.iload 4, 2) := by decide +kernel
theorem dM_isCommon_66 : decode cM_isCommon 66 = .ok (.imul, 1) := by decide +kernel
theorem dM_isCommon_67 : decode cM_isCommon 67 = .ok (.iload_n 3, 1) := by decide +kernel
theorem dM_isCommon_68 : decode cM_isCommon 68 = .ok (.if_icmp .le 7, 3) := by decide +kernel
theorem dM_isCommon_71 : decode cM_isCommon 71 = .ok (.iconst 1, 1) := by decide +kernel
theorem dM_isCommon_72 : decode cM_isCommon 72 = .ok (.goto 4, 3) := by decide +kernel
theorem dM_isCommon_75 : decode cM_isCommon 75 = .ok (.iconst 0, 1) := by decide +kernel
theorem dM_isCommon_76 : decode cM_isCommon 76 = .ok (.ireturn, 1) := by decide +kernel
theorem dM_high_0 : decode cM_high 0 = .ok (.aload_n 0, 1) := by decide +kernel
theorem dM_high_1 : decode cM_high 1 = .ok (.aload_n 0, 1) := by decide +kernel
theorem dM_high_2 : decode cM_high 2 = .ok (.invokevirtual 143, 3) := by decide +kernel
theorem dM_high_5 : decode cM_high 5 = .ok (.ifCond .eq 7, 3) := by decide +kernel
theorem dM_high_8 : decode cM_high 8 = .ok (.iconst 0, 1) := by decide +kernel
theorem dM_high_9 : decode cM_high 9 = .ok (.goto 4, 3) := by decide +kernel
theorem dM_high_12 : decode cM_high 12 = .ok (.iconst 1, 1) := by decide +kernel
theorem dM_high_13 : decode cM_high 13 = .ok (.putfield 54, 3) := by decide +kernel
theorem dM_high_16 : decode cM_high 16 = .ok (.aload_n 0, 1) := by decide +kernel
theorem dM_high_17 : decode cM_high 17 = .ok (.getfield 54, 3) := by decide +kernel
theorem dM_high_20 : decode cM_high 20 = .ok (.ifCond .le 7, 3) := by decide +kernel
theorem dM_high_23 : decode cM_high 23 = .ok (.lconst 0, 1) := by decide +kernel
theorem dM_high_24 : decode cM_high 24 = .ok (.goto 7, 3) := by decide +kernel
theorem dM_high_27 : decode cM_high 27 = .ok (.aload_n 0, 1) := by decide +kernel
theorem dM_high_28 : decode cM_high 28 = .ok (.getfield 140, 3) := by decide +kernel
theorem dM_high_31 : decode cM_high 31 = .ok (.lreturn, 1) := by decide +kernel
theorem dM_survivors_0 : decode cM_survivors 0 = .ok (.aload_n 0, 1) := by decide +kernel
theorem dM_survivors_1 : decode cM_survivors 1 = .ok (.iconst 0, 1) := by decide +kernel
theorem dM_survivors_2 : decode cM_survivors 2 = .ok (.putfield 54, 3) := by decide +kernel
theorem dM_survivors_5 : decode cM_survivors 5 = .ok (.aload_n 0, 1) := by decide +kernel
theorem dM_survivors_6 : decode cM_survivors 6 = .ok (.invokevirtual 152, 3) := by decide +kernel
theorem dM_survivors_9 : decode cM_survivors 9 = .ok (.pop, 1) := by decide +kernel
theorem dM_survivors_10 : decode cM_survivors 10 = .ok (.iconst 0, 1) := by decide +kernel
theorem dM_survivors_11 : decode cM_survivors 11 = .ok (.istore_n 1, 1) := by decide +kernel
theorem dM_survivors_12 : decode cM_survivors 12 = .ok (.iconst 0, 1) := by decide +kernel
theorem dM_survivors_13 : decode cM_survivors 13 = .ok (.istore_n 2, 1) := by decide +kernel
theorem dM_survivors_14 : decode cM_survivors 14 = .ok (.iload_n 2, 1) := by decide +kernel
theorem dM_survivors_15 : decode cM_survivors 15 = .ok (.iconst 5, 1) := by decide +kernel
theorem dM_survivors_16 : decode cM_survivors 16 = .ok (.if_icmp .ge 28, 3) := by decide +kernel
theorem dM_survivors_19 : decode cM_survivors 19 = .ok (.aload_n 0, 1) := by decide +kernel
theorem dM_survivors_20 : decode cM_survivors 20 = .ok (.getfield 51, 3) := by decide +kernel
theorem dM_survivors_23 : decode cM_survivors 23 = .ok (.iload_n 2, 1) := by decide +kernel
theorem dM_survivors_24 : decode cM_survivors 24 = .ok (.baload, 1) := by decide +kernel
theorem dM_survivors_25 : decode cM_survivors 25 = .ok (.ifCond .eq 11, 3) := by decide +kernel
theorem dM_survivors_28 : decode cM_survivors 28 = .ok (.iload_n 1, 1) := by decide +kernel
theorem dM_survivors_29 : decode cM_survivors 29 = .ok (.iconst 1, 1) := by decide +kernel
theorem dM_survivors_30 : decode cM_survivors 30 = .ok (.iload_n 2, 1) := by decide +kernel
theorem dM_survivors_31 : decode cM_survivors 31 = .ok (.ishl, 1) := by decide +kernel
theorem dM_survivors_32 : decode cM_survivors 32 = .ok (.iadd, 1) := by decide +kernel
theorem dM_survivors_33 : decode cM_survivors 33 = .ok (.goto 4, 3) := by decide +kernel
theorem dM_survivors_36 : decode cM_survivors 36 = .ok (.iload_n 1, 1) := by decide +kernel
theorem dM_survivors_37 : decode cM_survivors 37 = .ok (.istore_n 1, 1) := by decide +kernel
theorem dM_survivors_38 : decode cM_survivors 38 = .ok (.iinc 2 1, 3) := by decide +kernel
theorem dM_survivors_41 : decode cM_survivors 41 = .ok (.goto (-27), 3) := by decide +kernel
theorem dM_survivors_44 : decode cM_survivors 44 = .ok (.iload_n 1, 1) := by decide +kernel
theorem dM_survivors_45 : decode cM_survivors 45 = .ok (.ireturn, 1) := by decide +kernel
theorem dM_survive_0 : decode cM_survive 0 = .ok (.iconst 0, 1) := by decide +kernel
theorem dM_survive_1 : decode cM_survive 1 = .ok (.istore_n 1, 1) := by decide +kernel
theorem dM_survive_2 : decode cM_survive 2 = .ok (.aload_n 0, 1) := by decide +kernel
theorem dM_survive_3 : decode cM_survive 3 = .ok (.invokevirtual 143, 3) := by decide +kernel
theorem dM_survive_6 : decode cM_survive 6 = .ok (.istore_n 2, 1) := by decide +kernel
theorem dM_survive_7 : decode cM_survive 7 = .ok (.iconst 0, 1) := by decide +kernel
theorem dM_survive_8 : decode cM_survive 8 = .ok (.istore_n 3, 1) := by decide +kernel
theorem dM_survive_9 : decode cM_survive 9 = .ok (.iload_n 3, 1) := by decide +kernel
theorem dM_survive_10 : decode cM_survive 10 = .ok (.iconst 5, 1) := by decide +kernel
theorem dM_survive_11 : decode cM_survive 11 = .ok (.if_icmp .ge 75, 3) := by decide +kernel
theorem dM_survive_14 : decode cM_survive 14 = .ok (.aload_n 0, 1) := by decide +kernel
theorem dM_survive_15 : decode cM_survive 15 = .ok (.getfield 51, 3) := by decide +kernel
theorem dM_survive_18 : decode cM_survive 18 = .ok (.iload_n 3, 1) := by decide +kernel
theorem dM_survive_19 : decode cM_survive 19 = .ok (.iload_n 2, 1) := by decide +kernel
theorem dM_survive_20 : decode cM_survive 20 = .ok (.ifCond .eq 41, 3) := by decide +kernel
theorem dM_survive_23 : decode cM_survive 23 = .ok (.aload_n 0, 1) := by decide +kernel
theorem dM_survive_24 : decode cM_survive 24 = .ok (.iload_n 3, 1) := by decide +kernel
theorem dM_survive_25 : decode cM_survive 25 = .ok (.invokevirtual 130, 3) := by decide +kernel
theorem dM_survive_28 : decode cM_survive 28 = .ok (.ifCond .eq 33, 3) := by decide +kernel
theorem dM_survive_31 : decode cM_survive 31 = .ok (.aload_n 0, 1) := by decide +kernel
theorem dM_survive_32 : decode cM_survive 32 = .ok (.iload_n 3, 1) := by decide +kernel
theorem dM_survive_33 : decode cM_survive 33 = .ok (.invokevirtual 122, 3) := by decide +kernel
theorem dM_survive_36 : decode cM_survive 36 = .ok (.aload_n 0, 1) := by decide +kernel
theorem dM_survive_37 : decode cM_survive 37 = .ok (.getfield 137, 3) := by decide +kernel
theorem dM_survive_40 : decode cM_survive 40 = .ok (.lcmp, 1) := by decide +kernel
theorem dM_survive_41 : decode cM_survive 41 = .ok (.ifCond .lt 20, 3) := by decide +kernel
theorem dM_survive_44 : decode cM_survive 44 = .ok (.aload_n 0, 1) := by decide +kernel
theorem dM_survive_45 : decode cM_survive 45 = .ok (.iload_n 3, 1) := by decide +kernel
theorem dM_survive_46 : decode cM_survive 46 = .ok (.invokevirtual 122, 3) := by decide +kernel
theorem dM_survive_49 : decode cM_survive 49 = .ok (.aload_n 0, 1) := by decide +kernel
theorem dM_survive_50 : decode cM_survive 50 = .ok (.getfield 140, 3) := by decide +kernel
theorem dM_survive_53 : decode cM_survive 53 = .ok (.lcmp, 1) := by decide +kernel
theorem dM_survive_54 : decode cM_survive 54 = .ok (.ifCond .gt 7, 3) := by decide +kernel
theorem dM_survive_57 : decode cM_survive 57 = .ok (.iconst 1, 1) := by decide +kernel
theorem dM_survive_58 : decode cM_survive 58 = .ok (.goto 4, 3) := by decide +kernel
theorem dM_survive_61 : decode cM_survive 61 = .ok (.iconst 0, 1) := by decide +kernel
theorem dM_survive_62 : decode cM_survive 62 = .ok (.bastore, 1) := by decide +kernel
theorem dM_survive_63 : decode cM_survive 63 = .ok (.iload_n 1, 1) := by decide +kernel
theorem dM_survive_64 : decode cM_survive 64 = .ok (.aload_n 0, 1) := by decide +kernel
theorem dM_survive_65 : decode cM_survive 65 = .ok (.getfield 51, 3) := by decide +kernel
theorem dM_survive_68 : decode cM_survive 68 = .ok (.iload_n 3, 1) := by decide +kernel
theorem dM_survive_69 : decode cM_survive 69 = .ok (.baload, 1) := by decide +kernel
theorem dM_survive_70 : decode cM_survive 70 = .ok (.ifCond .eq 7, 3) := by decide +kernel
theorem dM_survive_73 : decode cM_survive 73 = .ok (.iconst 1, 1) := by decide +kernel
theorem dM_survive_74 : decode cM_survive 74 = .ok (.goto 4, 3) := by decide +kernel
theorem dM_survive_77 : decode cM_survive 77 = .ok (.iconst 0, 1) := by decide +kernel
theorem dM_survive_78 : decode cM_survive 78 = .ok (.iadd, 1) := by decide +kernel
theorem dM_survive_79 : decode cM_survive 79 = .ok (.istore_n 1, 1) := by decide +kernel
theorem dM_survive_80 : decode cM_survive 80 = .ok (.iinc 3 1, 3) := by decide +kernel
theorem dM_survive_83 : decode cM_survive 83 = .ok (.goto (-74), 3) := by decide +kernel
theorem dM_survive_86 : decode cM_survive 86 = .ok (.iload_n 1, 1) := by decide +kernel
theorem dM_survive_87 : decode cM_survive 87 = .ok (.iconst 3, 1) := by decide +kernel
theorem dM_survive_88 : decode cM_survive 88 = .ok (.if_icmp .le 104, 3) := by decide +kernel
theorem dM_survive_91 : decode cM_survive 91 = .ok (.iconst (-1), 1) := by decide +kernel
theorem dM_survive_92 : decode cM_survive 92 = .ok (.istore_n 3, 1) := by decide +kernel
theorem dM_survive_93 : decode cM_survive 93 = .ok (.ldc2_w 147, 3) := by decide +kernel
theorem dM_survive_96 : decode cM_survive 96 = .ok (.lstore 4, 2) := by decide +kernel
theorem dM_survive_98 : decode cM_survive 98 = .ok (.iconst 0, 1) := by decide +kernel
theorem dM_survive_99 : decode cM_survive 99 = .ok (.istore 6, 2) := by decide +kernel
theorem dM_survive_101 : decode cM_survive 101 = .ok (.iload 6, 2) := by decide +kernel
theorem dM_survive_103 : decode cM_survive 103 = .ok (.iconst 5, 1) := by decide +kernel
theorem dM_survive_104 : decode cM_survive 104 = .ok (.if_icmp .ge 75, 3) := by decide +kernel
theorem dM_survive_107 : decode cM_survive 107 = .ok (.aload_n 0, 1) := by decide +kernel
theorem dM_survive_108 : decode cM_survive 108 = .ok (.getfield 51, 3) := by decide +kernel
theorem dM_survive_111 : decode cM_survive 111 = .ok (.iload 6, 2) := by decide +kernel
theorem dM_survive_113 : decode cM_survive 113 = .ok (.baload, 1) := by decide +kernel
theorem dM_survive_114 : decode cM_survive 114 = .ok (.ifCond .eq 12, 3) := by decide +kernel
theorem dM_survive_117 : decode cM_survive 117 = .ok (.aload_n 0, 1) := by decide +kernel
theorem dM_survive_118 : decode cM_survive 118 = .ok (.iload 6, 2) := by decide +kernel
theorem dM_survive_120 : decode cM_survive 120 = .ok (.invokevirtual 149, 3) := by decide +kernel
theorem dM_survive_123 : decode cM_survive 123 = .ok (.goto 6, 3) := by decide +kernel
theorem dM_survive_126 : decode cM_survive 126 = .ok (.ldc2_w 147, 3) := by decide +kernel
theorem dM_survive_129 : decode cM_survive 129 = .ok (.lstore 7, 2) := by decide +kernel
theorem dM_survive_131 : decode cM_survive 131 = .ok (.aload_n 0, 1) := by decide +kernel
theorem dM_survive_132 : decode cM_survive 132 = .ok (.getfield 51, 3) := by decide +kernel
theorem dM_survive_135 : decode cM_survive 135 = .ok (.iload 6, 2) := by decide +kernel
theorem dM_survive_137 : decode cM_survive 137 = .ok (.baload, 1) := by decide +kernel
theorem dM_survive_138 : decode cM_survive 138 = .ok (.ifCond .eq 16, 3) := by decide +kernel
theorem dM_survive_141 : decode cM_survive 141 = .ok (.lload 7, 2) := by decide +kernel
theorem dM_survive_143 : decode cM_survive 143 = .ok (.lload 4, 2) := by decide +kernel
theorem dM_survive_145 : decode cM_survive 145 = .ok (.lcmp, 1) := by decide +kernel
theorem dM_survive_146 : decode cM_survive 146 = .ok (.ifCond .lt 8, 3) := by decide +kernel
theorem dM_survive_149 : decode cM_survive 149 = .ok (.iload 6, 2) := by decide +kernel
theorem dM_survive_151 : decode cM_survive 151 = .ok (.goto 4, 3) := by decide +kernel
theorem dM_survive_154 : decode cM_survive 154 = .ok (.iload_n 3, 1) := by decide +kernel
theorem dM_survive_155 : decode cM_survive 155 = .ok (.istore_n 3, 1) := by decide +kernel
theorem dM_survive_156 : decode cM_survive 156 = .ok (.lload 7, 2) := by decide +kernel
theorem dM_survive_158 : decode cM_survive 158 = .ok (.lload 4, 2) := by decide +kernel
theorem dM_survive_160 : decode cM_survive 160 = .ok (.lcmp, 1) := by decide +kernel
theorem dM_survive_161 : decode cM_survive 161 = .ok (.ifCond .le 8, 3) := by decide +kernel
theorem dM_survive_164 : decode cM_survive 164 = .ok (.lload 7, 2) := by decide +kernel
theorem dM_survive_166 : decode cM_survive 166 = .ok (.goto 5, 3) := by decide +kernel
theorem dM_survive_169 : decode cM_survive 169 = .ok (.lload 4, 2) := by decide +kernel
theorem dM_survive_171 : decode cM_survive 171 = .ok (.lstore 4, 2) := by decide +kernel
theorem dM_survive_173 : decode cM_survive 173 = .ok (.iinc 6 1, 3) := by decide +kernel
theorem dM_survive_176 : decode cM_survive 176 = .ok (.goto (-75), 3) := by decide +kernel
theorem dM_survive_179 : decode cM_survive 179 = .ok (.aload_n 0, 1) := by decide +kernel
theorem dM_survive_180 : decode cM_survive 180 = .ok (.getfield 51, 3) := by decide +kernel
theorem dM_survive_183 : decode cM_survive 183 = .ok (.iload_n 3, 1) := by decide +kernel
theorem dM_survive_184 : decode cM_survive 184 = .ok (.iconst 0, 1) := by decide +kernel
theorem dM_survive_185 : decode cM_survive 185 = .ok (.bastore, 1) := by decide +kernel
theorem dM_survive_186 : decode cM_survive 186 = .ok (.iinc 1 (-1), 3) := by decide +kernel
theorem dM_survive_189 : decode cM_survive 189 = .ok (.goto (-103), 3) := by decide +kernel
theorem dM_survive_192 : decode cM_survive 192 = .ok (.iload_n 1, 1) := by decide +kernel
theorem dM_survive_193 : decode cM_survive 193 = .ok (.ireturn, 1) := by decide +kernel
theorem dM_spread_0 : decode cM_spread 0 = .ok (.lconst 0, 1) := by decide +kernel
theorem dM_spread_1 : decode cM_spread 1 = .ok (.lstore_n 2, 1) := by decide +kernel
theorem dM_spread_2 : decode cM_spread 2 = .ok (.iconst 0, 1) := by decide +kernel
theorem dM_spread_3 : decode cM_spread 3 = .ok (.istore 4, 2) := by decide +kernel
theorem dM_spread_5 : decode cM_spread 5 = .ok (.iload 4, 2) := by decide +kernel
theorem dM_spread_7 : decode cM_spread 7 = .ok (.iconst 5, 1) := by decide +kernel
theorem dM_spread_8 : decode cM_spread 8 = .ok (.if_icmp .ge 41, 3) := by decide +kernel
theorem dM_spread_11 : decode cM_spread 11 = .ok (.lload_n 2, 1) := by decide +kernel
theorem dM_spread_12 : decode cM_spread 12 = .ok (.aload_n 0, 1) := by decide +kernel
theorem dM_spread_13 : decode cM_spread 13 = .ok (.getfield 51, 3) := by decide +kernel
theorem dM_spread_16 : decode cM_spread 16 = .ok (.iload 4, 2) := by decide +kernel
theorem dM_spread_18 : decode cM_spread 18 = .ok (.baload, 1) := by decide +kernel
theorem dM_spread_19 : decode cM_spread 19 = .ok (.ifCond .eq 21, 3) := by decide +kernel
theorem dM_spread_22 : decode cM_spread 22 = .ok (.aload_n 0, 1) := by decide +kernel
theorem dM_spread_23 : decode cM_spread 23 = .ok (.iload_n 1, 1) := by decide +kernel
theorem dM_spread_24 : decode cM_spread 24 = .ok (.invokevirtual 122, 3) := by decide +kernel
theorem dM_spread_27 : decode cM_spread 27 = .ok (.aload_n 0, 1) := by decide +kernel
theorem dM_spread_28 : decode cM_spread 28 = .ok (.iload 4, 2) := by decide +kernel
theorem dM_spread_30 : decode cM_spread 30 = .ok (.invokevirtual 122, 3) := by decide +kernel
theorem dM_spread_33 : decode cM_spread 33 = .ok (.lsub, 1) := by decide +kernel
theorem dM_spread_34 : decode cM_spread 34 = .ok (.invokestatic 112, 3) := by decide +kernel
theorem dM_spread_37 : decode cM_spread 37 = .ok (.goto 4, 3) := by decide +kernel
theorem dM_spread_40 : decode cM_spread 40 = .ok (.lconst 0, 1) := by decide +kernel
theorem dM_spread_41 : decode cM_spread 41 = .ok (.ladd, 1) := by decide +kernel
theorem dM_spread_42 : decode cM_spread 42 = .ok (.lstore_n 2, 1) := by decide +kernel
theorem dM_spread_43 : decode cM_spread 43 = .ok (.iinc 4 1, 3) := by decide +kernel
theorem dM_spread_46 : decode cM_spread 46 = .ok (.goto (-41), 3) := by decide +kernel
theorem dM_spread_49 : decode cM_spread 49 = .ok (.lload_n 2, 1) := by decide +kernel
theorem dM_spread_50 : decode cM_spread 50 = .ok (.lreturn, 1) := by decide +kernel
theorem dM_peer_0 : decode cM_peer 0 = .ok (.aload_n 0, 1) := by decide +kernel
theorem dM_peer_1 : decode cM_peer 1 = .ok (.aload_n 0, 1) := by decide +kernel
theorem dM_peer_2 : decode cM_peer 2 = .ok (.invokevirtual 152, 3) := by decide +kernel
theorem dM_peer_5 : decode cM_peer 5 = .ok (.ifCond .le 7, 3) := by decide +kernel
theorem dM_peer_8 : decode cM_peer 8 = .ok (.iconst 0, 1) := by decide +kernel
theorem dM_peer_9 : decode cM_peer 9 = .ok (.goto 4, 3) := by decide +kernel
theorem dM_peer_12 : decode cM_peer 12 = .ok (.iconst 1, 1) := by decide +kernel
theorem dM_peer_13 : decode cM_peer 13 = .ok (.putfield 54, 3) := by decide +kernel
theorem dM_peer_16 : decode cM_peer 16 = .ok (.aload_n 0, 1) := by decide +kernel
theorem dM_peer_17 : decode cM_peer 17 = .ok (.getfield 54, 3) := by decide +kernel
theorem dM_peer_20 : decode cM_peer 20 = .ok (.ifCond .le 7, 3) := by decide +kernel
theorem dM_peer_23 : decode cM_peer 23 = .ok (.iconst 0, 1) := by decide +kernel
theorem dM_peer_24 : decode cM_peer 24 = .ok (.goto 7, 3) := by decide +kernel
theorem dM_peer_27 : decode cM_peer 27 = .ok (.aload_n 0, 1) := by decide +kernel
theorem dM_peer_28 : decode cM_peer 28 = .ok (.invokevirtual 156, 3) := by decide +kernel
theorem dM_peer_31 : decode cM_peer 31 = .ok (.ireturn, 1) := by decide +kernel
theorem dM_peerOf_0 : decode cM_peerOf 0 = .ok (.iconst (-1), 1) := by decide +kernel
theorem dM_peerOf_1 : decode cM_peerOf 1 = .ok (.istore_n 1, 1) := by decide +kernel
theorem dM_peerOf_2 : decode cM_peerOf 2 = .ok (.iconst 4, 1) := by decide +kernel
theorem dM_peerOf_3 : decode cM_peerOf 3 = .ok (.istore_n 2, 1) := by decide +kernel
theorem dM_peerOf_4 : decode cM_peerOf 4 = .ok (.iload_n 2, 1) := by decide +kernel
theorem dM_peerOf_5 : decode cM_peerOf 5 = .ok (.ifCond .lt 82, 3) := by decide +kernel
theorem dM_peerOf_8 : decode cM_peerOf 8 = .ok (.aload_n 0, 1) := by decide +kernel
theorem dM_peerOf_9 : decode cM_peerOf 9 = .ok (.getfield 51, 3) := by decide +kernel
theorem dM_peerOf_12 : decode cM_peerOf 12 = .ok (.iload_n 2, 1) := by decide +kernel
theorem dM_peerOf_13 : decode cM_peerOf 13 = .ok (.baload, 1) := by decide +kernel
theorem dM_peerOf_14 : decode cM_peerOf 14 = .ok (.ifCond .eq 55, 3) := by decide +kernel
theorem dM_peerOf_17 : decode cM_peerOf 17 = .ok (.iload_n 1, 1) := by decide +kernel
theorem dM_peerOf_18 : decode cM_peerOf 18 = .ok (.ifCond .lt 47, 3) := by decide +kernel
theorem dM_peerOf_21 : decode cM_peerOf 21 = .ok (.aload_n 0, 1) := by decide +kernel
theorem dM_peerOf_22 : decode cM_peerOf 22 = .ok (.getfield 30, 3) := by decide +kernel
theorem dM_peerOf_25 : decode cM_peerOf 25 = .ok (.iload_n 2, 1) := by decide +kernel
theorem dM_peerOf_26 : decode cM_peerOf 26 = .ok (.iaload, 1) := by decide +kernel
theorem dM_peerOf_27 : decode cM_peerOf 27 = .ok (.aload_n 0, 1) := by decide +kernel
theorem dM_peerOf_28 : decode cM_peerOf 28 = .ok (.getfield 30, 3) := by decide +kernel
theorem dM_peerOf_31 : decode cM_peerOf 31 = .ok (.iload_n 1, 1) := by decide +kernel
theorem dM_peerOf_32 : decode cM_peerOf 32 = .ok (.iaload, 1) := by decide +kernel
theorem dM_peerOf_33 : decode cM_peerOf 33 = .ok (.if_icmp .lt 32, 3) := by decide +kernel
theorem dM_peerOf_36 : decode cM_peerOf 36 = .ok (.aload_n 0, 1) := by decide +kernel
theorem dM_peerOf_37 : decode cM_peerOf 37 = .ok (.getfield 30, 3) := by decide +kernel
theorem dM_peerOf_40 : decode cM_peerOf 40 = .ok (.iload_n 2, 1) := by decide +kernel
theorem dM_peerOf_41 : decode cM_peerOf 41 = .ok (.iaload, 1) := by decide +kernel
theorem dM_peerOf_42 : decode cM_peerOf 42 = .ok (.aload_n 0, 1) := by decide +kernel
theorem dM_peerOf_43 : decode cM_peerOf 43 = .ok (.getfield 30, 3) := by decide +kernel
theorem dM_peerOf_46 : decode cM_peerOf 46 = .ok (.iload_n 1, 1) := by decide +kernel
theorem dM_peerOf_47 : decode cM_peerOf 47 = .ok (.iaload, 1) := by decide +kernel
theorem dM_peerOf_48 : decode cM_peerOf 48 = .ok (.if_icmp .ne 21, 3) := by decide +kernel
theorem dM_peerOf_51 : decode cM_peerOf 51 = .ok (.aload_n 0, 1) := by decide +kernel
theorem dM_peerOf_52 : decode cM_peerOf 52 = .ok (.iload_n 2, 1) := by decide +kernel
theorem dM_peerOf_53 : decode cM_peerOf 53 = .ok (.invokevirtual 125, 3) := by decide +kernel
theorem dM_peerOf_56 : decode cM_peerOf 56 = .ok (.aload_n 0, 1) := by decide +kernel
theorem dM_peerOf_57 : decode cM_peerOf 57 = .ok (.iload_n 1, 1) := by decide +kernel
theorem dM_peerOf_58 : decode cM_peerOf 58 = .ok (.invokevirtual 125, 3) := by decide +kernel
theorem dM_peerOf_61 : decode cM_peerOf 61 = .ok (.lcmp, 1) := by decide +kernel
theorem dM_peerOf_62 : decode cM_peerOf 62 = .ok (.ifCond .gt 7, 3) := by decide +kernel
theorem dM_peerOf_65 : decode cM_peerOf 65 = .ok (.iconst 1, 1) := by decide +kernel
theorem dM_peerOf_66 : decode cM_peerOf 66 = .ok (.goto 4, 3) := by decide +kernel
theorem dM_peerOf_69 : decode cM_peerOf 69 = .ok (.iconst 0, 1) := by decide +kernel
theorem dM_peerOf_70 : decode cM_peerOf 70 = .ok (.istore_n 3, 1) := by decide +kernel
theorem dM_peerOf_71 : decode cM_peerOf 71 = .ok (.iload_n 3, 1) := by decide +kernel
theorem dM_peerOf_72 : decode cM_peerOf 72 = .ok (.ifCond .eq 7, 3) := by decide +kernel
theorem dM_peerOf_75 : decode cM_peerOf 75 = .ok (.iload_n 2, 1) := by decide +kernel
theorem dM_peerOf_76 : decode cM_peerOf 76 = .ok (.goto 4, 3) := by decide +kernel
theorem dM_peerOf_79 : decode cM_peerOf 79 = .ok (.iload_n 1, 1) := by decide +kernel
theorem dM_peerOf_80 : decode cM_peerOf 80 = .ok (.istore_n 1, 1) := by decide +kernel
theorem dM_peerOf_81 : decode cM_peerOf 81 = .ok (.iinc 2 (-1), 3) := by decide +kernel
theorem dM_peerOf_84 : decode cM_peerOf 84 = .ok (.goto (-80), 3) := by decide +kernel
theorem dM_peerOf_87 : decode cM_peerOf 87 = .ok (.iload_n 1, 1) := by decide +kernel
theorem dM_peerOf_88 : decode cM_peerOf 88 = .ok (.ireturn, 1) := by decide +kernel
theorem dM_update_0 : decode cM_update 0 = .ok (.aload_n 0, 1) := by decide +kernel
theorem dM_update_1 : decode cM_update 1 = .ok (.invokevirtual 152, 3) := by decide +kernel
theorem dM_update_4 : decode cM_update 4 = .ok (.istore_n 1, 1) := by decide +kernel
theorem dM_update_5 : decode cM_update 5 = .ok (.iload_n 1, 1) := by decide +kernel
theorem dM_update_6 : decode cM_update 6 = .ok (.ifCond .le 11, 3) := by decide +kernel
theorem dM_update_9 : decode cM_update 9 = .ok (.aload_n 0, 1) := by decide +kernel
theorem dM_update_10 : decode cM_update 10 = .ok (.iload_n 1, 1) := by decide +kernel
theorem dM_update_11 : decode cM_update 11 = .ok (.invokevirtual 161, 3) := by decide +kernel
theorem dM_update_14 : decode cM_update 14 = .ok (.goto 4, 3) := by decide +kernel
theorem dM_update_17 : decode cM_update 17 = .ok (.lconst 0, 1) := by decide +kernel
theorem dM_update_18 : decode cM_update 18 = .ok (.lstore_n 2, 1) := by decide +kernel
theorem dM_update_19 : decode cM_update 19 = .ok (.aload_n 0, 1) := by decide +kernel
theorem dM_update_20 : decode cM_update 20 = .ok (.iload_n 1, 1) := by decide +kernel
theorem dM_update_21 : decode cM_update 21 = .ok (.ifCond .ne 7, 3) := by decide +kernel
theorem dM_update_24 : decode cM_update 24 = .ok (.iconst 1, 1) := by decide +kernel
theorem dM_update_25 : decode cM_update 25 = .ok (.goto 26, 3) := by decide +kernel
theorem dM_update_28 : decode cM_update 28 = .ok (.lload_n 2, 1) := by decide +kernel
theorem dM_update_29 : decode cM_update 29 = .ok (.invokestatic 112, 3) := by decide +kernel
theorem dM_update_32 : decode cM_update 32 = .ok (.ldc2_w 164, 3) := by decide +kernel
theorem dM_update_35 : decode cM_update 35 = .ok (.lcmp, 1) := by decide +kernel
theorem dM_update_36 : decode cM_update 36 = .ok (.ifCond .le 14, 3) := by decide +kernel
theorem dM_update_39 : decode cM_update 39 = .ok (.aload_n 0, 1) := by decide +kernel
theorem dM_update_40 : decode cM_update 40 = .ok (.getfield 166, 3) := by decide +kernel
theorem dM_update_43 : decode cM_update 43 = .ok (.ifCond .eq 7, 3) := by decide +kernel
theorem dM_update_46 : decode cM_update 46 = .ok (.iconst 2, 1) := by decide +kernel
theorem dM_update_47 : decode cM_update 47 = .ok (.goto 4, 3) := by decide +kernel
theorem dM_update_50 : decode cM_update 50 = .ok (.iconst 0, 1) := by decide +kernel
theorem dM_update_51 : decode cM_update 51 = .ok (.putfield 54, 3) := by decide +kernel
theorem dM_update_54 : decode cM_update 54 = .ok (.aload_n 0, 1) := by decide +kernel
theorem dM_update_55 : decode cM_update 55 = .ok (.getfield 54, 3) := by decide +kernel
theorem dM_update_58 : decode cM_update 58 = .ok (.ifCond .le 5, 3) := by decide +kernel
theorem dM_update_61 : decode cM_update 61 = .ok (.iconst 0, 1) := by decide +kernel
theorem dM_update_62 : decode cM_update 62 = .ok (.ireturn, 1) := by decide +kernel
theorem dM_update_63 : decode cM_update 63 = .ok (.aload_n 0, 1) := by decide +kernel
theorem dM_update_64 : decode cM_update 64 = .ok (.iconst 1, 1) := by decide +kernel
theorem dM_update_65 : decode cM_update 65 = .ok (.putfield 166, 3) := by decide +kernel
theorem dM_update_68 : decode cM_update 68 = .ok (.lload_n 2, 1) := by decide +kernel
theorem dM_update_69 : decode cM_update 69 = .ok (.invokestatic 112, 3) := by decide +kernel
theorem dM_update_72 : decode cM_update 72 = .ok (.ldc2_w 170, 3) := by decide +kernel
theorem dM_update_75 : decode cM_update 75 = .ok (.lcmp, 1) := by decide +kernel
theorem dM_update_76 : decode cM_update 76 = .ok (.ifCond .le 10, 3) := by decide +kernel
theorem dM_update_79 : decode cM_update 79 = .ok (.aload_n 0, 1) := by decide +kernel
theorem dM_update_80 : decode cM_update 80 = .ok (.lload_n 2, 1) := by decide +kernel
theorem dM_update_81 : decode cM_update 81 = .ok (.invokevirtual 172, 3) := by decide +kernel
theorem dM_update_84 : decode cM_update 84 = .ok (.iconst 1, 1) := by decide +kernel
theorem dM_update_85 : decode cM_update 85 = .ok (.ireturn, 1) := by decide +kernel
theorem dM_update_86 : decode cM_update 86 = .ok (.aload_n 0, 1) := by decide +kernel
theorem dM_update_87 : decode cM_update 87 = .ok (.lload_n 2, 1) := by decide +kernel
theorem dM_update_88 : decode cM_update 88 = .ok (.invokevirtual 176, 3) := by decide +kernel
theorem dM_update_91 : decode cM_update 91 = .ok (.iconst 0, 1) := by decide +kernel
theorem dM_update_92 : decode cM_update 92 = .ok (.ireturn, 1) := by decide +kernel
end
section
theorem dM_combined_0 : decode cM_combined 0 = .ok (.lconst 0, 1) := by decide +kernel
theorem dM_combined_1 : decode cM_combined 1 = .ok (.lstore_n 2, 1) := by decide +kernel
theorem dM_combined_2 : decode cM_combined 2 = .ok (.iconst 0, 1) := by decide +kernel
theorem dM_combined_3 : decode cM_combined 3 = .ok (.istore 4, 2) := by decide +kernel
theorem dM_combined_5 : decode cM_combined 5 = .ok (.iload 4, 2) := by decide +kernel
theorem dM_combined_7 : decode cM_combined 7 = .ok (.iconst 5, 1) := by decide +kernel
theorem dM_combined_8 : decode cM_combined 8 = .ok (.if_icmp .ge 32, 3) := by decide +kernel
theorem dM_combined_11 : decode cM_combined 11 = .ok (.lload_n 2, 1) := by decide +kernel
theorem dM_combined_12 : decode cM_combined 12 = .ok (.aload_n 0, 1) := by decide +kernel
theorem dM_combined_13 : decode cM_combined 13 = .ok (.getfield 51, 3) := by decide +kernel
theorem dM_combined_16 : decode cM_combined 16 = .ok (.iload 4, 2) := by decide +kernel
theorem dM_combined_18 : decode cM_combined 18 = .ok (.baload, 1) := by decide +kernel
theorem dM_combined_19 : decode cM_combined 19 = .ok (.ifCond .eq 12, 3) := by decide +kernel
theorem dM_combined_22 : decode cM_combined 22 = .ok (.aload_n 0, 1) := by decide +kernel
theorem dM_combined_23 : decode cM_combined 23 = .ok (.iload 4, 2) := by decide +kernel
theorem dM_combined_25 : decode cM_combined 25 = .ok (.invokevirtual 122, 3) := by decide +kernel
theorem dM_combined_28 : decode cM_combined 28 = .ok (.goto 4, 3) := by decide +kernel
theorem dM_combined_31 : decode cM_combined 31 = .ok (.lconst 0, 1) := by decide +kernel
theorem dM_combined_32 : decode cM_combined 32 = .ok (.ladd, 1) := by decide +kernel
theorem dM_combined_33 : decode cM_combined 33 = .ok (.lstore_n 2, 1) := by decide +kernel
theorem dM_combined_34 : decode cM_combined 34 = .ok (.iinc 4 1, 3) := by decide +kernel
theorem dM_combined_37 : decode cM_combined 37 = .ok (.goto (-32), 3) := by decide +kernel
theorem dM_combined_40 : decode cM_combined 40 = .ok (.lload_n 2, 1) := by decide +kernel
theorem dM_combined_41 : decode cM_combined 41 = .ok (.iload_n 1, 1) := by decide +kernel
theorem dM_combined_42 : decode cM_combined 42 = .ok (.i2l, 1) := by decide +kernel
theorem dM_combined_43 : decode cM_combined 43 = .ok (.ldiv, 1) := by decide +kernel
theorem dM_combined_44 : decode cM_combined 44 = .ok (.lstore 4, 2) := by decide +kernel
theorem dM_combined_46 : decode cM_combined 46 = .ok (.lload 4, 2) := by decide +kernel
theorem dM_combined_48 : decode cM_combined 48 = .ok (.iload_n 1, 1) := by decide +kernel
theorem dM_combined_49 : decode cM_combined 49 = .ok (.i2l, 1) := by decide +kernel
theorem dM_combined_50 : decode cM_combined 50 = .ok (.lmul, 1) := by decide +kernel
theorem dM_combined_51 : decode cM_combined 51 = .ok (.lload_n 2, 1) := by decide +kernel
theorem dM_combined_52 : decode cM_combined 52 = .ok (.lcmp, 1) := by decide +kernel
theorem dM_combined_53 : decode cM_combined 53 = .ok (.ifCond .le 10, 3) := by decide +kernel
theorem dM_combined_56 : decode cM_combined 56 = .ok (.lload 4, 2) := by decide +kernel
theorem dM_combined_58 : decode cM_combined 58 = .ok (.lconst 1, 1) := by decide +kernel
theorem dM_combined_59 : decode cM_combined 59 = .ok (.lsub, 1) := by decide +kernel
theorem dM_combined_60 : decode cM_combined 60 = .ok (.goto 5, 3) := by decide +kernel
theorem dM_combined_63 : decode cM_combined 63 = .ok (.lload 4, 2) := by decide +kernel
theorem dM_combined_65 : decode cM_combined 65 = .ok (.lreturn, 1) := by decide +kernel
theorem dM_step_0 : decode cM_step 0 = .ok (.aload_n 0, 1) := by decide +kernel
theorem dM_step_1 : decode cM_step 1 = .ok (.aload_n 0, 1) := by decide +kernel
theorem dM_step_2 : decode cM_step 2 = .ok (.getfield 66, 3) := by decide +kernel
theorem dM_step_5 : decode cM_step 5 = .ok (.lload_n 1, 1) := by decide +kernel
theorem dM_step_6 : decode cM_step 6 = .ok (.ladd, 1) := by decide +kernel
theorem dM_step_7 : decode cM_step 7 = .ok (.putfield 66, 3) := by decide +kernel
theorem dM_step_10 : decode cM_step 10 = .ok (.aload_n 0, 1) := by decide +kernel
theorem dM_step_11 : decode cM_step 11 = .ok (.lconst 0, 1) := by decide +kernel
theorem dM_step_12 : decode cM_step 12 = .ok (.putfield 62, 3) := by decide +kernel
theorem dM_step_15 : decode cM_step 15 = .ok (.iconst 0, 1) := by decide +kernel
theorem dM_step_16 : decode cM_step 16 = .ok (.istore_n 3, 1) := by decide +kernel
theorem dM_step_17 : decode cM_step 17 = .ok (.iload_n 3, 1) := by decide +kernel
theorem dM_step_18 : decode cM_step 18 = .ok (.iconst 5, 1) := by decide +kernel
theorem dM_step_19 : decode cM_step 19 = .ok (.if_icmp .ge 30, 3) := by decide +kernel
theorem dM_step_22 : decode cM_step 22 = .ok (.aload_n 0, 1) := by decide +kernel
theorem dM_step_23 : decode cM_step 23 = .ok (.getfield 23, 3) := by decide +kernel
theorem dM_step_26 : decode cM_step 26 = .ok (.iload_n 3, 1) := by decide +kernel
theorem dM_step_27 : decode cM_step 27 = .ok (.iconst 0, 1) := by decide +kernel
theorem dM_step_28 : decode cM_step 28 = .ok (.bastore, 1) := by decide +kernel
theorem dM_step_29 : decode cM_step 29 = .ok (.aload_n 0, 1) := by decide +kernel
theorem dM_step_30 : decode cM_step 30 = .ok (.getfield 39, 3) := by decide +kernel
theorem dM_step_33 : decode cM_step 33 = .ok (.iload_n 3, 1) := by decide +kernel
theorem dM_step_34 : decode cM_step 34 = .ok (.iconst 0, 1) := by decide +kernel
theorem dM_step_35 : decode cM_step 35 = .ok (.iastore, 1) := by decide +kernel
theorem dM_step_36 : decode cM_step 36 = .ok (.aload_n 0, 1) := by decide +kernel
theorem dM_step_37 : decode cM_step 37 = .ok (.getfield 17, 3) := by decide +kernel
theorem dM_step_40 : decode cM_step 40 = .ok (.iload_n 3, 1) := by decide +kernel
theorem dM_step_41 : decode cM_step 41 = .ok (.iconst 0, 1) := by decide +kernel
theorem dM_step_42 : decode cM_step 42 = .ok (.iastore, 1) := by decide +kernel
theorem dM_step_43 : decode cM_step 43 = .ok (.iinc 3 1, 3) := by decide +kernel
theorem dM_step_46 : decode cM_step 46 = .ok (.goto (-29), 3) := by decide +kernel
theorem dM_step_49 : decode cM_step 49 = .ok (.return_, 1) := by decide +kernel
theorem dM_slow_0 : decode cM_slow 0 = .ok (.lload_n 1, 1) := by decide +kernel
theorem dM_slow_1 : decode cM_slow 1 = .ok (.invokestatic 112, 3) := by decide +kernel
theorem dM_slow_4 : decode cM_slow 4 = .ok (.ldc2_w 159, 3) := by decide +kernel
theorem dM_slow_7 : decode cM_slow 7 = .ok (.aload_n 0, 1) := by decide +kernel
theorem dM_slow_8 : decode cM_slow 8 = .ok (.aload_n 0, 1) := by decide +kernel
theorem dM_slow_9 : decode cM_slow 9 = .ok (.invokevirtual 156, 3) := by decide +kernel
theorem dM_slow_12 : decode cM_slow 12 = .ok (.invokevirtual 116, 3) := by decide +kernel
theorem dM_slow_15 : decode cM_slow 15 = .ok (.lmul, 1) := by decide +kernel
theorem dM_slow_16 : decode cM_slow 16 = .ok (.ldc2_w 97, 3) := by decide +kernel
theorem dM_slow_19 : decode cM_slow 19 = .ok (.ladd, 1) := by decide +kernel
theorem dM_slow_20 : decode cM_slow 20 = .ok (.lcmp, 1) := by decide +kernel
theorem dM_slow_21 : decode cM_slow 21 = .ok (.ifCond .gt 7, 3) := by decide +kernel
theorem dM_slow_24 : decode cM_slow 24 = .ok (.iconst 1, 1) := by decide +kernel
theorem dM_slow_25 : decode cM_slow 25 = .ok (.goto 4, 3) := by decide +kernel
theorem dM_slow_28 : decode cM_slow 28 = .ok (.iconst 0, 1) := by decide +kernel
theorem dM_slow_29 : decode cM_slow 29 = .ok (.istore_n 3, 1) := by decide +kernel
theorem dM_slow_30 : decode cM_slow 30 = .ok (.aload_n 0, 1) := by decide +kernel
theorem dM_slow_31 : decode cM_slow 31 = .ok (.lload_n 1, 1) := by decide +kernel
theorem dM_slow_32 : decode cM_slow 32 = .ok (.putfield 62, 3) := by decide +kernel
theorem dM_slow_35 : decode cM_slow 35 = .ok (.iconst 0, 1) := by decide +kernel
theorem dM_slow_36 : decode cM_slow 36 = .ok (.istore 4, 2) := by decide +kernel
theorem dM_slow_38 : decode cM_slow 38 = .ok (.iload 4, 2) := by decide +kernel
theorem dM_slow_40 : decode cM_slow 40 = .ok (.iconst 5, 1) := by decide +kernel
theorem dM_slow_41 : decode cM_slow 41 = .ok (.if_icmp .ge 95, 3) := by decide +kernel
theorem dM_slow_44 : decode cM_slow 44 = .ok (.iload_n 3, 1) := by decide +kernel
theorem dM_slow_45 : decode cM_slow 45 = .ok (.ifCond .eq 54, 3) := by decide +kernel
theorem dM_slow_48 : decode cM_slow 48 = .ok (.aload_n 0, 1) := by decide +kernel
theorem dM_slow_49 : decode cM_slow 49 = .ok (.getfield 20, 3) := by decide +kernel
theorem dM_slow_52 : decode cM_slow 52 = .ok (.iload 4, 2) := by decide +kernel
theorem dM_slow_54 : decode cM_slow 54 = .ok (.aload_n 0, 1) := by decide +kernel
theorem dM_slow_55 : decode cM_slow 55 = .ok (.getfield 51, 3) := by decide +kernel
theorem dM_slow_58 : decode cM_slow 58 = .ok (.iload 4, 2) := by decide +kernel
theorem dM_slow_60 : decode cM_slow 60 = .ok (.baload, 1) := by decide +kernel
theorem dM_slow_61 : decode cM_slow 61 = .ok (.ifCond .eq 27, 3) := by decide +kernel
theorem dM_slow_64 : decode cM_slow 64 = .ok (.aload_n 0, 1) := by decide +kernel
theorem dM_slow_65 : decode cM_slow 65 = .ok (.getfield 20, 3) := by decide +kernel
theorem dM_slow_68 : decode cM_slow 68 = .ok (.iload 4, 2) := by decide +kernel
theorem dM_slow_70 : decode cM_slow 70 = .ok (.iaload, 1) := by decide +kernel
theorem dM_slow_71 : decode cM_slow 71 = .ok (.bipush 10, 2) := by decide +kernel
theorem dM_slow_73 : decode cM_slow 73 = .ok (.if_icmp .ge 15, 3) := by decide +kernel
theorem dM_slow_76 : decode cM_slow 76 = .ok (.aload_n 0, 1) := by decide +kernel
theorem dM_slow_77 : decode cM_slow 77 = .ok (.getfield 20, 3) := by decide +kernel
theorem dM_slow_80 : decode cM_slow 80 = .ok (.iload 4, 2) := by decide +kernel
theorem dM_slow_82 : decode cM_slow 82 = .ok (.iaload, 1) := by decide +kernel
theorem dM_slow_83 : decode cM_slow 83 = .ok (.iconst 1, 1) := by decide +kernel
theorem dM_slow_84 : decode cM_slow 84 = .ok (.iadd, 1) := by decide +kernel
theorem dM_slow_85 : decode cM_slow 85 = .ok (.goto 10, 3) := by decide +kernel
theorem dM_slow_88 : decode cM_slow 88 = .ok (.aload_n 0, 1) := by decide +kernel
theorem dM_slow_89 : decode cM_slow 89 = .ok (.getfield 20, 3) := by decide +kernel
theorem dM_slow_92 : decode cM_slow 92 = .ok (.iload 4, 2) := by decide +kernel
theorem dM_slow_94 : decode cM_slow 94 = .ok (.iaload, 1) := by decide +kernel
theorem dM_slow_95 : decode cM_slow 95 = .ok (.iastore, 1) := by decide +kernel
theorem dM_slow_96 : decode cM_slow 96 = .ok (.goto 34, 3) := by decide +kernel
theorem dM_slow_99 : decode cM_slow 99 = .ok (.aload_n 0, 1) := by decide +kernel
theorem dM_slow_100 : decode cM_slow 100 = .ok (.getfield 20, 3) := by decide +kernel
theorem dM_slow_103 : decode cM_slow 103 = .ok (.iload 4, 2) := by decide +kernel
theorem dM_slow_105 : decode cM_slow 105 = .ok (.aload_n 0, 1) := by decide +kernel
theorem dM_slow_106 : decode cM_slow 106 = .ok (.getfield 20, 3) := by decide +kernel
theorem dM_slow_109 : decode cM_slow 109 = .ok (.iload 4, 2) := by decide +kernel
theorem dM_slow_111 : decode cM_slow 111 = .ok (.iaload, 1) := by decide +kernel
theorem dM_slow_112 : decode cM_slow 112 = .ok (.iconst 4, 1) := by decide +kernel
theorem dM_slow_113 : decode cM_slow 113 = .ok (.if_icmp .le 15, 3) := by decide +kernel
theorem dM_slow_116 : decode cM_slow 116 = .ok (.aload_n 0, 1) := by decide +kernel
theorem dM_slow_117 : decode cM_slow 117 = .ok (.getfield 20, 3) := by decide +kernel
theorem dM_slow_120 : decode cM_slow 120 = .ok (.iload 4, 2) := by decide +kernel
theorem dM_slow_122 : decode cM_slow 122 = .ok (.iaload, 1) := by decide +kernel
theorem dM_slow_123 : decode cM_slow 123 = .ok (.iconst 1, 1) := by decide +kernel
theorem dM_slow_124 : decode cM_slow 124 = .ok (.isub, 1) := by decide +kernel
theorem dM_slow_125 : decode cM_slow 125 = .ok (.goto 4, 3) := by decide +kernel
theorem dM_slow_128 : decode cM_slow 128 = .ok (.iconst 4, 1) := by decide +kernel
theorem dM_slow_129 : decode cM_slow 129 = .ok (.iastore, 1) := by decide +kernel
theorem dM_slow_130 : decode cM_slow 130 = .ok (.iinc 4 1, 3) := by decide +kernel
theorem dM_slow_133 : decode cM_slow 133 = .ok (.goto (-95), 3) := by decide +kernel
theorem dM_slow_136 : decode cM_slow 136 = .ok (.return_, 1) := by decide +kernel
end
section
/-! The tables' words by their places -/
theorem zt_in0 {i : Nat} {w : Cond} (h : tables_1_1[i]? = some w) : w ∈ lw_tbl := List.mem_append_right _ (List.mem_append_left _ (List.mem_of_getElem? h))
theorem zt_in1 {i : Nat} {w : Cond} (h : tables_1_2[i]? = some w) : w ∈ lw_tbl := List.mem_append_right _ (List.mem_append_right _ (List.mem_append_left _ (List.mem_of_getElem? h)))
theorem zt_in2 {i : Nat} {w : Cond} (h : tables_1_3[i]? = some w) : w ∈ lw_tbl := List.mem_append_right _ (List.mem_append_right _ (List.mem_append_right _ (List.mem_append_left _ (List.mem_of_getElem? h))))
theorem zt_in3 {i : Nat} {w : Cond} (h : tables_1_4[i]? = some w) : w ∈ lw_tbl := List.mem_append_right _ (List.mem_append_right _ (List.mem_append_right _ (List.mem_append_right _ (List.mem_of_getElem? h))))
theorem zt_inp {i : Nat} {q : MethodName × Nat} (h : lw_privs[i]? = some q) : Cond.selects q.1.cls q.1 q.1 ∈ lw_tbl := List.mem_append_left _ (List.mem_map.mpr ⟨q, List.mem_of_getElem? h, rfl⟩)
theorem tw_0 : (Jvm.Cond.initialized "StrataClientLaw") ∈ lw_tbl := zt_in0 (i := 0) rfl
theorem tw_1 : (Jvm.Cond.initialized "StrataClient") ∈ lw_tbl := zt_in0 (i := 1) rfl
theorem tw_2 : (Jvm.Cond.initialized "StrataClient$Packet") ∈ lw_tbl := zt_in0 (i := 2) rfl
theorem tw_3 : (Jvm.Cond.initialized "StrataClient$Server") ∈ lw_tbl := zt_in0 (i := 3) rfl
theorem tw_4 : (Jvm.Cond.initialized "StrataClient$Vote") ∈ lw_tbl := zt_in0 (i := 4) rfl
theorem tw_5 : (Jvm.Cond.initialized "StrataClientModel") ∈ lw_tbl := zt_in0 (i := 5) rfl
theorem tw_6 : (Jvm.Cond.initialized "java/lang/Throwable") ∈ lw_tbl := zt_in0 (i := 6) rfl
theorem tw_7 : (Jvm.Cond.initialized "java/lang/Exception") ∈ lw_tbl := zt_in0 (i := 7) rfl
theorem tw_8 : (Jvm.Cond.initialized "java/lang/RuntimeException") ∈ lw_tbl := zt_in0 (i := 8) rfl
theorem tw_9 : (Jvm.Cond.initialized "java/lang/IllegalArgumentException") ∈ lw_tbl := zt_in0 (i := 9) rfl
theorem tw_10 : (Jvm.Cond.initialized "java/lang/Math") ∈ lw_tbl := zt_in0 (i := 10) rfl
theorem tw_11 : (Jvm.Cond.initialized "java/lang/IndexOutOfBoundsException") ∈ lw_tbl := zt_in0 (i := 11) rfl
theorem tw_12 : (Jvm.Cond.initialized "java/lang/IllegalStateException") ∈ lw_tbl := zt_in0 (i := 12) rfl
theorem tw_13 : (Jvm.Cond.initialized "java/util/NoSuchElementException") ∈ lw_tbl := zt_in0 (i := 13) rfl
theorem tw_14 : (Jvm.Cond.initialized "java/lang/Integer") ∈ lw_tbl := zt_in0 (i := 14) rfl
theorem tw_15 : (Jvm.Cond.initialized "java/lang/UnsupportedOperationException") ∈ lw_tbl := zt_in0 (i := 15) rfl
theorem tw_16 : (Jvm.Cond.classLink "StrataClientLaw" (8 : Nat) "StrataClient") ∈ lw_tbl := zt_in0 (i := 16) rfl
theorem tw_17 : (Jvm.Cond.instantiable "StrataClient" (6 : Nat)) ∈ lw_tbl := zt_in0 (i := 17) rfl
theorem tw_18 : (Jvm.Cond.methodLink "StrataClientLaw" (74 : Nat) ({ cls := "StrataClient", name := "<init>", desc := "()V" } : Jvm.MethodName)) ∈ lw_tbl := zt_in0 (i := 18) rfl
theorem tw_19 : (Jvm.Cond.instanceMethod ({ cls := "StrataClient", name := "<init>", desc := "()V" } : Jvm.MethodName)) ∈ lw_tbl := zt_in0 (i := 19) rfl
theorem tw_20 : (Jvm.Cond.code ({ cls := "StrataClient", name := "<init>", desc := "()V" } : Jvm.MethodName) prog_1_method_1_code (2 : Nat) (Option.none : Option Jvm.ClassFile.FieldType)) ∈ lw_tbl := zt_in0 (i := 20) rfl
theorem tw_21 : (Jvm.Cond.methodLink "StrataClient" (1 : Nat) ({ cls := "java/lang/Object", name := "<init>", desc := "()V" } : Jvm.MethodName)) ∈ lw_tbl := zt_in0 (i := 21) rfl
theorem tw_22 : (Jvm.Cond.instanceMethod ({ cls := "java/lang/Object", name := "<init>", desc := "()V" } : Jvm.MethodName)) ∈ lw_tbl := zt_in0 (i := 22) rfl
theorem tw_23 : (Jvm.Cond.code ({ cls := "java/lang/Object", name := "<init>", desc := "()V" } : Jvm.MethodName) object_method_1_code (1 : Nat) (Option.none : Option Jvm.ClassFile.FieldType)) ∈ lw_tbl := zt_in0 (i := 23) rfl
theorem tw_24 : (Jvm.Cond.classLink "StrataClient" (7 : Nat) "StrataClient$Packet") ∈ lw_tbl := zt_in0 (i := 24) rfl
theorem tw_25 : (Jvm.Cond.instantiable "StrataClient$Packet" (1 : Nat)) ∈ lw_tbl := zt_in0 (i := 25) rfl
theorem tw_26 : (Jvm.Cond.methodLink "StrataClient" (9 : Nat) ({ cls := "StrataClient$Packet", name := "<init>", desc := "()V" } : Jvm.MethodName)) ∈ lw_tbl := zt_in0 (i := 26) rfl
theorem tw_27 : (Jvm.Cond.instanceMethod ({ cls := "StrataClient$Packet", name := "<init>", desc := "()V" } : Jvm.MethodName)) ∈ lw_tbl := zt_in0 (i := 27) rfl
theorem tw_28 : (Jvm.Cond.code ({ cls := "StrataClient$Packet", name := "<init>", desc := "()V" } : Jvm.MethodName) prog_2_method_1_code (1 : Nat) (Option.none : Option Jvm.ClassFile.FieldType)) ∈ lw_tbl := zt_in0 (i := 28) rfl
theorem tw_29 : (Jvm.Cond.methodLink "StrataClient$Packet" (1 : Nat) ({ cls := "java/lang/Object", name := "<init>", desc := "()V" } : Jvm.MethodName)) ∈ lw_tbl := zt_in0 (i := 29) rfl
theorem tw_30 : (Jvm.Cond.fieldLink "StrataClient$Packet" (9 : Nat) "StrataClient$Packet" "row" "[B") ∈ lw_tbl := zt_in0 (i := 30) rfl
theorem tw_31 : (Jvm.Cond.laysFinal "StrataClient$Packet" "StrataClient$Packet" "row" "[B") ∈ lw_tbl := zt_in0 (i := 31) rfl
theorem tw_32 : (Jvm.Cond.soleField "StrataClient$Packet" "row") ∈ lw_tbl := zt_in0 (i := 32) rfl
theorem tw_33 : (Jvm.Cond.superclass "StrataClient$Packet" "java/lang/Object") ∈ lw_tbl := zt_in0 (i := 33) rfl
theorem tw_34 : (Jvm.Cond.arrayClass Jvm.ClassFile.FieldType.byte) ∈ lw_tbl := zt_in0 (i := 34) rfl
theorem tw_35 : (Jvm.Cond.classLink "StrataClient" (16 : Nat) "StrataClient$Server") ∈ lw_tbl := zt_in0 (i := 35) rfl
theorem tw_36 : (Jvm.Cond.arrayOver (Jvm.ClassFile.FieldType.object "StrataClient$Server")) ∈ lw_tbl := zt_in0 (i := 36) rfl
theorem tw_37 : (Jvm.Cond.instantiable "StrataClient$Server" (12 : Nat)) ∈ lw_tbl := zt_in0 (i := 37) rfl
theorem tw_38 : (Jvm.Cond.methodLink "StrataClient" (22 : Nat) ({ cls := "StrataClient$Server", name := "<init>", desc := "()V" } : Jvm.MethodName)) ∈ lw_tbl := zt_in0 (i := 38) rfl
theorem tw_39 : (Jvm.Cond.instanceMethod ({ cls := "StrataClient$Server", name := "<init>", desc := "()V" } : Jvm.MethodName)) ∈ lw_tbl := zt_in0 (i := 39) rfl
theorem tw_40 : (Jvm.Cond.code ({ cls := "StrataClient$Server", name := "<init>", desc := "()V" } : Jvm.MethodName) prog_3_method_1_code (1 : Nat) (Option.none : Option Jvm.ClassFile.FieldType)) ∈ lw_tbl := zt_in0 (i := 40) rfl
theorem tw_41 : (Jvm.Cond.methodLink "StrataClient$Server" (1 : Nat) ({ cls := "java/lang/Object", name := "<init>", desc := "()V" } : Jvm.MethodName)) ∈ lw_tbl := zt_in0 (i := 41) rfl
theorem tw_42 : (Jvm.Cond.fieldLink "StrataClient$Server" (7 : Nat) "StrataClient$Server" "denied" "Z") ∈ lw_tbl := zt_in0 (i := 42) rfl
theorem tw_43 : (Jvm.Cond.fieldLink "StrataClient" (79 : Nat) "StrataClient$Server" "denied" "Z") ∈ lw_tbl := zt_in0 (i := 43) rfl
theorem tw_44 : (Jvm.Cond.fieldLink "StrataClient$Vote" (74 : Nat) "StrataClient$Server" "denied" "Z") ∈ lw_tbl := zt_in0 (i := 44) rfl
theorem tw_45 : (Jvm.Cond.fieldLink "StrataClient$Server" (13 : Nat) "StrataClient$Server" "reach" "I") ∈ lw_tbl := zt_in0 (i := 45) rfl
theorem tw_46 : (Jvm.Cond.fieldLink "StrataClient$Vote" (80 : Nat) "StrataClient$Server" "reach" "I") ∈ lw_tbl := zt_in0 (i := 46) rfl
theorem tw_47 : (Jvm.Cond.fieldLink "StrataClient" (108 : Nat) "StrataClient$Server" "reach" "I") ∈ lw_tbl := zt_in0 (i := 47) rfl
theorem tw_48 : (Jvm.Cond.fieldLink "StrataClient$Server" (17 : Nat) "StrataClient$Server" "poll" "I") ∈ lw_tbl := zt_in0 (i := 48) rfl
theorem tw_49 : (Jvm.Cond.fieldLink "StrataClient" (112 : Nat) "StrataClient$Server" "poll" "I") ∈ lw_tbl := zt_in0 (i := 49) rfl
theorem tw_50 : (Jvm.Cond.fieldLink "StrataClient$Server" (20 : Nat) "StrataClient$Server" "expecting" "Z") ∈ lw_tbl := zt_in0 (i := 50) rfl
theorem tw_51 : (Jvm.Cond.fieldLink "StrataClient" (68 : Nat) "StrataClient$Server" "expecting" "Z") ∈ lw_tbl := zt_in0 (i := 51) rfl
theorem tw_52 : (Jvm.Cond.fieldLink "StrataClient$Server" (23 : Nat) "StrataClient$Server" "expected" "J") ∈ lw_tbl := zt_in0 (i := 52) rfl
theorem tw_53 : (Jvm.Cond.fieldLink "StrataClient" (76 : Nat) "StrataClient$Server" "expected" "J") ∈ lw_tbl := zt_in0 (i := 53) rfl
theorem tw_54 : (Jvm.Cond.fieldLink "StrataClient$Server" (27 : Nat) "StrataClient$Server" "count" "I") ∈ lw_tbl := zt_in0 (i := 54) rfl
theorem tw_55 : (Jvm.Cond.fieldLink "StrataClient$Vote" (83 : Nat) "StrataClient$Server" "count" "I") ∈ lw_tbl := zt_in0 (i := 55) rfl
theorem tw_56 : (Jvm.Cond.fieldLink "StrataClient" (115 : Nat) "StrataClient$Server" "count" "I") ∈ lw_tbl := zt_in0 (i := 56) rfl
theorem tw_57 : (Jvm.Cond.fieldLink "StrataClient$Server" (30 : Nat) "StrataClient$Server" "stratum" "I") ∈ lw_tbl := zt_in0 (i := 57) rfl
theorem tw_58 : (Jvm.Cond.fieldLink "StrataClient$Vote" (117 : Nat) "StrataClient$Server" "stratum" "I") ∈ lw_tbl := zt_in0 (i := 58) rfl
theorem tw_59 : (Jvm.Cond.fieldLink "StrataClient$Server" (33 : Nat) "StrataClient$Server" "rootDelay" "J") ∈ lw_tbl := zt_in0 (i := 59) rfl
theorem tw_60 : (Jvm.Cond.fieldLink "StrataClient$Server" (36 : Nat) "StrataClient$Server" "rootDispersion" "J") ∈ lw_tbl := zt_in0 (i := 60) rfl
theorem tw_61 : (Jvm.Cond.fieldLink "StrataClient$Server" (39 : Nat) "StrataClient$Server" "offsets" "[J") ∈ lw_tbl := zt_in0 (i := 61) rfl
theorem tw_62 : (Jvm.Cond.fieldLink "StrataClient$Server" (43 : Nat) "StrataClient$Server" "delays" "[J") ∈ lw_tbl := zt_in0 (i := 62) rfl
theorem tw_63 : (Jvm.Cond.fieldLink "StrataClient$Server" (46 : Nat) "StrataClient$Server" "arrivals" "[J") ∈ lw_tbl := zt_in0 (i := 63) rfl
theorem tw_64 : (Jvm.Cond.lays "StrataClient$Server" "StrataClient$Server" "denied" "Z") ∈ lw_tbl := zt_in0 (i := 64) rfl
theorem tw_65 : (Jvm.Cond.soleField "StrataClient$Server" "denied") ∈ lw_tbl := zt_in0 (i := 65) rfl
theorem tw_66 : (Jvm.Cond.lays "StrataClient$Server" "StrataClient$Server" "reach" "I") ∈ lw_tbl := zt_in0 (i := 66) rfl
theorem tw_67 : (Jvm.Cond.soleField "StrataClient$Server" "reach") ∈ lw_tbl := zt_in0 (i := 67) rfl
theorem tw_68 : (Jvm.Cond.lays "StrataClient$Server" "StrataClient$Server" "poll" "I") ∈ lw_tbl := zt_in0 (i := 68) rfl
theorem tw_69 : (Jvm.Cond.soleField "StrataClient$Server" "poll") ∈ lw_tbl := zt_in0 (i := 69) rfl
theorem tw_70 : (Jvm.Cond.lays "StrataClient$Server" "StrataClient$Server" "expecting" "Z") ∈ lw_tbl := zt_in0 (i := 70) rfl
theorem tw_71 : (Jvm.Cond.soleField "StrataClient$Server" "expecting") ∈ lw_tbl := zt_in0 (i := 71) rfl
theorem tw_72 : (Jvm.Cond.lays "StrataClient$Server" "StrataClient$Server" "expected" "J") ∈ lw_tbl := zt_in0 (i := 72) rfl
theorem tw_73 : (Jvm.Cond.soleField "StrataClient$Server" "expected") ∈ lw_tbl := zt_in0 (i := 73) rfl
theorem tw_74 : (Jvm.Cond.lays "StrataClient$Server" "StrataClient$Server" "count" "I") ∈ lw_tbl := zt_in0 (i := 74) rfl
theorem tw_75 : (Jvm.Cond.soleField "StrataClient$Server" "count") ∈ lw_tbl := zt_in0 (i := 75) rfl
theorem tw_76 : (Jvm.Cond.lays "StrataClient$Server" "StrataClient$Server" "stratum" "I") ∈ lw_tbl := zt_in0 (i := 76) rfl
theorem tw_77 : (Jvm.Cond.soleField "StrataClient$Server" "stratum") ∈ lw_tbl := zt_in0 (i := 77) rfl
theorem tw_78 : (Jvm.Cond.lays "StrataClient$Server" "StrataClient$Server" "rootDelay" "J") ∈ lw_tbl := zt_in0 (i := 78) rfl
theorem tw_79 : (Jvm.Cond.soleField "StrataClient$Server" "rootDelay") ∈ lw_tbl := zt_in0 (i := 79) rfl
theorem tw_80 : (Jvm.Cond.lays "StrataClient$Server" "StrataClient$Server" "rootDispersion" "J") ∈ lw_tbl := zt_in0 (i := 80) rfl
theorem tw_81 : (Jvm.Cond.soleField "StrataClient$Server" "rootDispersion") ∈ lw_tbl := zt_in0 (i := 81) rfl
theorem tw_82 : (Jvm.Cond.laysFinal "StrataClient$Server" "StrataClient$Server" "offsets" "[J") ∈ lw_tbl := zt_in0 (i := 82) rfl
theorem tw_83 : (Jvm.Cond.soleField "StrataClient$Server" "offsets") ∈ lw_tbl := zt_in0 (i := 83) rfl
theorem tw_84 : (Jvm.Cond.laysFinal "StrataClient$Server" "StrataClient$Server" "delays" "[J") ∈ lw_tbl := zt_in0 (i := 84) rfl
theorem tw_85 : (Jvm.Cond.soleField "StrataClient$Server" "delays") ∈ lw_tbl := zt_in0 (i := 85) rfl
theorem tw_86 : (Jvm.Cond.laysFinal "StrataClient$Server" "StrataClient$Server" "arrivals" "[J") ∈ lw_tbl := zt_in0 (i := 86) rfl
theorem tw_87 : (Jvm.Cond.soleField "StrataClient$Server" "arrivals") ∈ lw_tbl := zt_in0 (i := 87) rfl
theorem tw_88 : (Jvm.Cond.superclass "StrataClient$Server" "java/lang/Object") ∈ lw_tbl := zt_in0 (i := 88) rfl
theorem tw_89 : (Jvm.Cond.arrayClass Jvm.ClassFile.FieldType.long) ∈ lw_tbl := zt_in0 (i := 89) rfl
theorem tw_90 : (Jvm.Cond.classLink "StrataClient" (23 : Nat) "StrataClient$Vote") ∈ lw_tbl := zt_in0 (i := 90) rfl
theorem tw_91 : (Jvm.Cond.instantiable "StrataClient$Vote" (6 : Nat)) ∈ lw_tbl := zt_in0 (i := 91) rfl
theorem tw_92 : (Jvm.Cond.methodLink "StrataClient" (25 : Nat) ({ cls := "StrataClient$Vote", name := "<init>", desc := "()V" } : Jvm.MethodName)) ∈ lw_tbl := zt_in0 (i := 92) rfl
theorem tw_93 : (Jvm.Cond.instanceMethod ({ cls := "StrataClient$Vote", name := "<init>", desc := "()V" } : Jvm.MethodName)) ∈ lw_tbl := zt_in0 (i := 93) rfl
theorem tw_94 : (Jvm.Cond.code ({ cls := "StrataClient$Vote", name := "<init>", desc := "()V" } : Jvm.MethodName) prog_4_method_1_code (1 : Nat) (Option.none : Option Jvm.ClassFile.FieldType)) ∈ lw_tbl := zt_in0 (i := 94) rfl
theorem tw_95 : (Jvm.Cond.methodLink "StrataClient$Vote" (3 : Nat) ({ cls := "java/lang/Object", name := "<init>", desc := "()V" } : Jvm.MethodName)) ∈ lw_tbl := zt_in0 (i := 95) rfl
theorem tw_96 : (Jvm.Cond.constantLong "StrataClient$Vote" (15 : Nat) (4611686018427387904 : Int64)) ∈ lw_tbl := zt_in0 (i := 96) rfl
theorem tw_97 : (Jvm.Cond.constantLong "StrataClient$Vote" (21 : Nat) (-4611686018427387904 : Int64)) ∈ lw_tbl := zt_in0 (i := 97) rfl
theorem tw_98 : (Jvm.Cond.fieldLink "StrataClient$Vote" (9 : Nat) "StrataClient$Vote" "candidates" "I") ∈ lw_tbl := zt_in0 (i := 98) rfl
theorem tw_99 : (Jvm.Cond.fieldLink "StrataClient" (138 : Nat) "StrataClient$Vote" "candidates" "I") ∈ lw_tbl := zt_in0 (i := 99) rfl
theorem tw_100 : (Jvm.Cond.fieldLink "StrataClient$Vote" (17 : Nat) "StrataClient$Vote" "low" "J") ∈ lw_tbl := zt_in0 (i := 100) rfl
theorem tw_101 : (Jvm.Cond.fieldLink "StrataClient" (147 : Nat) "StrataClient$Vote" "low" "J") ∈ lw_tbl := zt_in0 (i := 101) rfl
theorem tw_102 : (Jvm.Cond.fieldLink "StrataClient$Vote" (23 : Nat) "StrataClient$Vote" "high" "J") ∈ lw_tbl := zt_in0 (i := 102) rfl
theorem tw_103 : (Jvm.Cond.fieldLink "StrataClient" (150 : Nat) "StrataClient$Vote" "high" "J") ∈ lw_tbl := zt_in0 (i := 103) rfl
theorem tw_104 : (Jvm.Cond.fieldLink "StrataClient$Vote" (26 : Nat) "StrataClient$Vote" "survivors" "I") ∈ lw_tbl := zt_in0 (i := 104) rfl
theorem tw_105 : (Jvm.Cond.fieldLink "StrataClient" (153 : Nat) "StrataClient$Vote" "survivors" "I") ∈ lw_tbl := zt_in0 (i := 105) rfl
theorem tw_106 : (Jvm.Cond.fieldLink "StrataClient$Vote" (29 : Nat) "StrataClient$Vote" "offsets" "[J") ∈ lw_tbl := zt_in0 (i := 106) rfl
theorem tw_107 : (Jvm.Cond.fieldLink "StrataClient$Vote" (33 : Nat) "StrataClient$Vote" "distances" "[J") ∈ lw_tbl := zt_in0 (i := 107) rfl
theorem tw_108 : (Jvm.Cond.lays "StrataClient$Vote" "StrataClient$Vote" "candidates" "I") ∈ lw_tbl := zt_in0 (i := 108) rfl
theorem tw_109 : (Jvm.Cond.soleField "StrataClient$Vote" "candidates") ∈ lw_tbl := zt_in0 (i := 109) rfl
theorem tw_110 : (Jvm.Cond.lays "StrataClient$Vote" "StrataClient$Vote" "low" "J") ∈ lw_tbl := zt_in0 (i := 110) rfl
theorem tw_111 : (Jvm.Cond.soleField "StrataClient$Vote" "low") ∈ lw_tbl := zt_in0 (i := 111) rfl
theorem tw_112 : (Jvm.Cond.lays "StrataClient$Vote" "StrataClient$Vote" "high" "J") ∈ lw_tbl := zt_in0 (i := 112) rfl
theorem tw_113 : (Jvm.Cond.soleField "StrataClient$Vote" "high") ∈ lw_tbl := zt_in0 (i := 113) rfl
theorem tw_114 : (Jvm.Cond.lays "StrataClient$Vote" "StrataClient$Vote" "survivors" "I") ∈ lw_tbl := zt_in0 (i := 114) rfl
theorem tw_115 : (Jvm.Cond.soleField "StrataClient$Vote" "survivors") ∈ lw_tbl := zt_in0 (i := 115) rfl
theorem tw_116 : (Jvm.Cond.laysFinal "StrataClient$Vote" "StrataClient$Vote" "offsets" "[J") ∈ lw_tbl := zt_in0 (i := 116) rfl
theorem tw_117 : (Jvm.Cond.soleField "StrataClient$Vote" "offsets") ∈ lw_tbl := zt_in0 (i := 117) rfl
theorem tw_118 : (Jvm.Cond.laysFinal "StrataClient$Vote" "StrataClient$Vote" "distances" "[J") ∈ lw_tbl := zt_in0 (i := 118) rfl
theorem tw_119 : (Jvm.Cond.soleField "StrataClient$Vote" "distances") ∈ lw_tbl := zt_in0 (i := 119) rfl
theorem tw_120 : (Jvm.Cond.superclass "StrataClient$Vote" "java/lang/Object") ∈ lw_tbl := zt_in0 (i := 120) rfl
theorem tw_121 : (Jvm.Cond.fieldLink "StrataClient" (10 : Nat) "StrataClient" "packet" "LStrataClient$Packet;") ∈ lw_tbl := zt_in0 (i := 121) rfl
theorem tw_122 : (Jvm.Cond.fieldLink "StrataClient" (18 : Nat) "StrataClient" "servers" "[LStrataClient$Server;") ∈ lw_tbl := zt_in0 (i := 122) rfl
theorem tw_123 : (Jvm.Cond.fieldLink "StrataClient" (26 : Nat) "StrataClient" "vote" "LStrataClient$Vote;") ∈ lw_tbl := zt_in0 (i := 123) rfl
theorem tw_124 : (Jvm.Cond.fieldLink "StrataClient" (30 : Nat) "StrataClient" "local" "J") ∈ lw_tbl := zt_in0 (i := 124) rfl
theorem tw_125 : (Jvm.Cond.fieldLink "StrataClient" (34 : Nat) "StrataClient" "slew" "J") ∈ lw_tbl := zt_in0 (i := 125) rfl
theorem tw_126 : (Jvm.Cond.fieldLink "StrataClient" (37 : Nat) "StrataClient" "wasSet" "Z") ∈ lw_tbl := zt_in0 (i := 126) rfl
theorem tw_127 : (Jvm.Cond.laysFinal "StrataClient" "StrataClient" "packet" "LStrataClient$Packet;") ∈ lw_tbl := zt_in0 (i := 127) rfl
theorem tw_128 : (Jvm.Cond.soleField "StrataClient" "packet") ∈ lw_tbl := zt_in0 (i := 128) rfl
theorem tw_129 : (Jvm.Cond.laysFinal "StrataClient" "StrataClient" "servers" "[LStrataClient$Server;") ∈ lw_tbl := zt_in0 (i := 129) rfl
theorem tw_130 : (Jvm.Cond.soleField "StrataClient" "servers") ∈ lw_tbl := zt_in0 (i := 130) rfl
theorem tw_131 : (Jvm.Cond.laysFinal "StrataClient" "StrataClient" "vote" "LStrataClient$Vote;") ∈ lw_tbl := zt_in0 (i := 131) rfl
theorem tw_132 : (Jvm.Cond.soleField "StrataClient" "vote") ∈ lw_tbl := zt_in0 (i := 132) rfl
theorem tw_133 : (Jvm.Cond.lays "StrataClient" "StrataClient" "local" "J") ∈ lw_tbl := zt_in0 (i := 133) rfl
theorem tw_134 : (Jvm.Cond.soleField "StrataClient" "local") ∈ lw_tbl := zt_in0 (i := 134) rfl
theorem tw_135 : (Jvm.Cond.lays "StrataClient" "StrataClient" "slew" "J") ∈ lw_tbl := zt_in0 (i := 135) rfl
theorem tw_136 : (Jvm.Cond.soleField "StrataClient" "slew") ∈ lw_tbl := zt_in0 (i := 136) rfl
theorem tw_137 : (Jvm.Cond.lays "StrataClient" "StrataClient" "wasSet" "Z") ∈ lw_tbl := zt_in0 (i := 137) rfl
theorem tw_138 : (Jvm.Cond.soleField "StrataClient" "wasSet") ∈ lw_tbl := zt_in0 (i := 138) rfl
theorem tw_139 : (Jvm.Cond.superclass "StrataClient" "java/lang/Object") ∈ lw_tbl := zt_in0 (i := 139) rfl
theorem tw_140 : (Jvm.Cond.methodLink "StrataClientLaw" (89 : Nat) ({ cls := "StrataClient", name := "local", desc := "()J" } : Jvm.MethodName)) ∈ lw_tbl := zt_in0 (i := 140) rfl
theorem tw_141 : (Jvm.Cond.instanceMethod ({ cls := "StrataClient", name := "local", desc := "()J" } : Jvm.MethodName)) ∈ lw_tbl := zt_in0 (i := 141) rfl
theorem tw_142 : (Jvm.Cond.selects "StrataClient" ({ cls := "StrataClient", name := "local", desc := "()J" } : Jvm.MethodName) ({ cls := "StrataClient", name := "local", desc := "()J" } : Jvm.MethodName)) ∈ lw_tbl := zt_in0 (i := 142) rfl
theorem tw_143 : (Jvm.Cond.code ({ cls := "StrataClient", name := "local", desc := "()J" } : Jvm.MethodName) prog_1_method_3_code (1 : Nat) (Option.some Jvm.ClassFile.FieldType.long)) ∈ lw_tbl := zt_in0 (i := 143) rfl
theorem tw_144 : (Jvm.Cond.methodLink "StrataClientLaw" (93 : Nat) ({ cls := "StrataClient", name := "slew", desc := "()J" } : Jvm.MethodName)) ∈ lw_tbl := zt_in0 (i := 144) rfl
theorem tw_145 : (Jvm.Cond.instanceMethod ({ cls := "StrataClient", name := "slew", desc := "()J" } : Jvm.MethodName)) ∈ lw_tbl := zt_in0 (i := 145) rfl
theorem tw_146 : (Jvm.Cond.selects "StrataClient" ({ cls := "StrataClient", name := "slew", desc := "()J" } : Jvm.MethodName) ({ cls := "StrataClient", name := "slew", desc := "()J" } : Jvm.MethodName)) ∈ lw_tbl := zt_in0 (i := 146) rfl
theorem tw_147 : (Jvm.Cond.code ({ cls := "StrataClient", name := "slew", desc := "()J" } : Jvm.MethodName) prog_1_method_4_code (1 : Nat) (Option.some Jvm.ClassFile.FieldType.long)) ∈ lw_tbl := zt_in0 (i := 147) rfl
theorem tw_148 : (Jvm.Cond.methodLink "StrataClientLaw" (133 : Nat) ({ cls := "StrataClient", name := "candidates", desc := "()I" } : Jvm.MethodName)) ∈ lw_tbl := zt_in0 (i := 148) rfl
theorem tw_149 : (Jvm.Cond.instanceMethod ({ cls := "StrataClient", name := "candidates", desc := "()I" } : Jvm.MethodName)) ∈ lw_tbl := zt_in0 (i := 149) rfl
theorem tw_150 : (Jvm.Cond.selects "StrataClient" ({ cls := "StrataClient", name := "candidates", desc := "()I" } : Jvm.MethodName) ({ cls := "StrataClient", name := "candidates", desc := "()I" } : Jvm.MethodName)) ∈ lw_tbl := zt_in0 (i := 150) rfl
theorem tw_151 : (Jvm.Cond.code ({ cls := "StrataClient", name := "candidates", desc := "()I" } : Jvm.MethodName) prog_1_method_16_code (1 : Nat) (Option.some Jvm.ClassFile.FieldType.int)) ∈ lw_tbl := zt_in0 (i := 151) rfl
theorem tw_152 : (Jvm.Cond.methodLink "StrataClient" (134 : Nat) ({ cls := "StrataClient$Vote", name := "hold", desc := "([LStrataClient$Server;J)V" } : Jvm.MethodName)) ∈ lw_tbl := zt_in0 (i := 152) rfl
theorem tw_153 : (Jvm.Cond.instanceMethod ({ cls := "StrataClient$Vote", name := "hold", desc := "([LStrataClient$Server;J)V" } : Jvm.MethodName)) ∈ lw_tbl := zt_in0 (i := 153) rfl
theorem tw_154 : (Jvm.Cond.selects "StrataClient$Vote" ({ cls := "StrataClient$Vote", name := "hold", desc := "([LStrataClient$Server;J)V" } : Jvm.MethodName) ({ cls := "StrataClient$Vote", name := "hold", desc := "([LStrataClient$Server;J)V" } : Jvm.MethodName)) ∈ lw_tbl := zt_in0 (i := 154) rfl
theorem tw_155 : (Jvm.Cond.code ({ cls := "StrataClient$Vote", name := "hold", desc := "([LStrataClient$Server;J)V" } : Jvm.MethodName) prog_4_method_3_code (4 : Nat) (Option.none : Option Jvm.ClassFile.FieldType)) ∈ lw_tbl := zt_in0 (i := 155) rfl
theorem tw_156 : (Jvm.Cond.methodLink "StrataClient$Vote" (36 : Nat) ({ cls := "StrataClient$Vote", name := "findCandidates", desc := "([LStrataClient$Server;J)V" } : Jvm.MethodName)) ∈ lw_tbl := zt_in0 (i := 156) rfl
theorem tw_157 : (Jvm.Cond.privateMethod ({ cls := "StrataClient$Vote", name := "findCandidates", desc := "([LStrataClient$Server;J)V" } : Jvm.MethodName)) ∈ lw_tbl := zt_in0 (i := 157) rfl
theorem tw_158 : (Jvm.Cond.instanceMethod ({ cls := "StrataClient$Vote", name := "findCandidates", desc := "([LStrataClient$Server;J)V" } : Jvm.MethodName)) ∈ lw_tbl := zt_in0 (i := 158) rfl
theorem tw_159 : (Jvm.Cond.code ({ cls := "StrataClient$Vote", name := "findCandidates", desc := "([LStrataClient$Server;J)V" } : Jvm.MethodName) prog_4_method_8_code (6 : Nat) (Option.none : Option Jvm.ClassFile.FieldType)) ∈ lw_tbl := zt_in0 (i := 159) rfl
theorem tw_160 : (Jvm.Cond.methodLink "StrataClient$Vote" (86 : Nat) ({ cls := "StrataClient$Server", name := "bestOffset", desc := "(J)J" } : Jvm.MethodName)) ∈ lw_tbl := zt_in0 (i := 160) rfl
theorem tw_161 : (Jvm.Cond.instanceMethod ({ cls := "StrataClient$Server", name := "bestOffset", desc := "(J)J" } : Jvm.MethodName)) ∈ lw_tbl := zt_in0 (i := 161) rfl
theorem tw_162 : (Jvm.Cond.selects "StrataClient$Server" ({ cls := "StrataClient$Server", name := "bestOffset", desc := "(J)J" } : Jvm.MethodName) ({ cls := "StrataClient$Server", name := "bestOffset", desc := "(J)J" } : Jvm.MethodName)) ∈ lw_tbl := zt_in0 (i := 162) rfl
theorem tw_163 : (Jvm.Cond.code ({ cls := "StrataClient$Server", name := "bestOffset", desc := "(J)J" } : Jvm.MethodName) prog_3_method_9_code (3 : Nat) (Option.some Jvm.ClassFile.FieldType.long)) ∈ lw_tbl := zt_in0 (i := 163) rfl
theorem tw_164 : (Jvm.Cond.methodLink "StrataClient$Server" (67 : Nat) ({ cls := "StrataClient$Server", name := "bestAt", desc := "(J)I" } : Jvm.MethodName)) ∈ lw_tbl := zt_in0 (i := 164) rfl
theorem tw_165 : (Jvm.Cond.privateMethod ({ cls := "StrataClient$Server", name := "bestAt", desc := "(J)I" } : Jvm.MethodName)) ∈ lw_tbl := zt_in0 (i := 165) rfl
theorem tw_166 : (Jvm.Cond.instanceMethod ({ cls := "StrataClient$Server", name := "bestAt", desc := "(J)I" } : Jvm.MethodName)) ∈ lw_tbl := zt_in0 (i := 166) rfl
theorem tw_167 : (Jvm.Cond.code ({ cls := "StrataClient$Server", name := "bestAt", desc := "(J)I" } : Jvm.MethodName) prog_3_method_13_code (5 : Nat) (Option.some Jvm.ClassFile.FieldType.int)) ∈ lw_tbl := zt_in0 (i := 167) rfl
theorem tw_168 : (Jvm.Cond.methodLink "StrataClient$Server" (77 : Nat) ({ cls := "StrataClient$Server", name := "distanceOf", desc := "(IJ)J" } : Jvm.MethodName)) ∈ lw_tbl := zt_in0 (i := 168) rfl
theorem tw_169 : (Jvm.Cond.privateMethod ({ cls := "StrataClient$Server", name := "distanceOf", desc := "(IJ)J" } : Jvm.MethodName)) ∈ lw_tbl := zt_in0 (i := 169) rfl
theorem tw_170 : (Jvm.Cond.instanceMethod ({ cls := "StrataClient$Server", name := "distanceOf", desc := "(IJ)J" } : Jvm.MethodName)) ∈ lw_tbl := zt_in0 (i := 170) rfl
theorem tw_171 : (Jvm.Cond.code ({ cls := "StrataClient$Server", name := "distanceOf", desc := "(IJ)J" } : Jvm.MethodName) prog_3_method_14_code (6 : Nat) (Option.some Jvm.ClassFile.FieldType.long)) ∈ lw_tbl := zt_in0 (i := 171) rfl
theorem tw_172 : (Jvm.Cond.constantLong "StrataClient$Server" (75 : Nat) (2 : Int64)) ∈ lw_tbl := zt_in0 (i := 172) rfl
theorem tw_173 : (Jvm.Cond.constantLong "StrataClient$Server" (81 : Nat) (65536 : Int64)) ∈ lw_tbl := zt_in0 (i := 173) rfl
theorem tw_174 : (Jvm.Cond.methodLink "StrataClient$Server" (83 : Nat) ({ cls := "java/lang/Math", name := "floorDiv", desc := "(JJ)J" } : Jvm.MethodName)) ∈ lw_tbl := zt_in0 (i := 174) rfl
theorem tw_175 : (Jvm.Cond.static ({ cls := "java/lang/Math", name := "floorDiv", desc := "(JJ)J" } : Jvm.MethodName)) ∈ lw_tbl := zt_in0 (i := 175) rfl
theorem tw_176 : (Jvm.Cond.code ({ cls := "java/lang/Math", name := "floorDiv", desc := "(JJ)J" } : Jvm.MethodName) prog_12_method_49_code (6 : Nat) (Option.some Jvm.ClassFile.FieldType.long)) ∈ lw_tbl := zt_in0 (i := 176) rfl
theorem tw_177 : (Jvm.Cond.methodLink "StrataClient$Vote" (90 : Nat) ({ cls := "StrataClient$Server", name := "rootDistance", desc := "(J)J" } : Jvm.MethodName)) ∈ lw_tbl := zt_in0 (i := 177) rfl
theorem tw_178 : (Jvm.Cond.instanceMethod ({ cls := "StrataClient$Server", name := "rootDistance", desc := "(J)J" } : Jvm.MethodName)) ∈ lw_tbl := zt_in0 (i := 178) rfl
theorem tw_179 : (Jvm.Cond.selects "StrataClient$Server" ({ cls := "StrataClient$Server", name := "rootDistance", desc := "(J)J" } : Jvm.MethodName) ({ cls := "StrataClient$Server", name := "rootDistance", desc := "(J)J" } : Jvm.MethodName)) ∈ lw_tbl := zt_in0 (i := 179) rfl
theorem tw_180 : (Jvm.Cond.code ({ cls := "StrataClient$Server", name := "rootDistance", desc := "(J)J" } : Jvm.MethodName) prog_3_method_12_code (4 : Nat) (Option.some Jvm.ClassFile.FieldType.long)) ∈ lw_tbl := zt_in0 (i := 180) rfl
theorem tw_181 : (Jvm.Cond.methodLink "StrataClient$Server" (71 : Nat) ({ cls := "StrataClient$Server", name := "farthestFrom", desc := "(J)J" } : Jvm.MethodName)) ∈ lw_tbl := zt_in0 (i := 181) rfl
theorem tw_182 : (Jvm.Cond.privateMethod ({ cls := "StrataClient$Server", name := "farthestFrom", desc := "(J)J" } : Jvm.MethodName)) ∈ lw_tbl := zt_in0 (i := 182) rfl
theorem tw_183 : (Jvm.Cond.instanceMethod ({ cls := "StrataClient$Server", name := "farthestFrom", desc := "(J)J" } : Jvm.MethodName)) ∈ lw_tbl := zt_in0 (i := 183) rfl
theorem tw_184 : (Jvm.Cond.code ({ cls := "StrataClient$Server", name := "farthestFrom", desc := "(J)J" } : Jvm.MethodName) prog_3_method_15_code (6 : Nat) (Option.some Jvm.ClassFile.FieldType.long)) ∈ lw_tbl := zt_in0 (i := 184) rfl
theorem tw_185 : (Jvm.Cond.methodLink "StrataClient$Server" (87 : Nat) ({ cls := "java/lang/Math", name := "abs", desc := "(J)J" } : Jvm.MethodName)) ∈ lw_tbl := zt_in0 (i := 185) rfl
theorem tw_186 : (Jvm.Cond.static ({ cls := "java/lang/Math", name := "abs", desc := "(J)J" } : Jvm.MethodName)) ∈ lw_tbl := zt_in0 (i := 186) rfl
theorem tw_187 : (Jvm.Cond.code ({ cls := "java/lang/Math", name := "abs", desc := "(J)J" } : Jvm.MethodName) prog_12_method_61_code (2 : Nat) (Option.some Jvm.ClassFile.FieldType.long)) ∈ lw_tbl := zt_in0 (i := 187) rfl
theorem tw_188 : (Jvm.Cond.methodLink "StrataClient$Server" (90 : Nat) ({ cls := "java/lang/Math", name := "max", desc := "(JJ)J" } : Jvm.MethodName)) ∈ lw_tbl := zt_in0 (i := 188) rfl
theorem tw_189 : (Jvm.Cond.static ({ cls := "java/lang/Math", name := "max", desc := "(JJ)J" } : Jvm.MethodName)) ∈ lw_tbl := zt_in0 (i := 189) rfl
theorem tw_190 : (Jvm.Cond.code ({ cls := "java/lang/Math", name := "max", desc := "(JJ)J" } : Jvm.MethodName) prog_12_method_66_code (4 : Nat) (Option.some Jvm.ClassFile.FieldType.long)) ∈ lw_tbl := zt_in0 (i := 190) rfl
theorem tw_191 : (Jvm.Cond.constantLong "StrataClient$Vote" (93 : Nat) (6442450944 : Int64)) ∈ lw_tbl := zt_in0 (i := 191) rfl
theorem tw_192 : (Jvm.Cond.methodLink "StrataClient$Vote" (40 : Nat) ({ cls := "StrataClient$Vote", name := "findBounds", desc := "()V" } : Jvm.MethodName)) ∈ lw_tbl := zt_in0 (i := 192) rfl
theorem tw_193 : (Jvm.Cond.privateMethod ({ cls := "StrataClient$Vote", name := "findBounds", desc := "()V" } : Jvm.MethodName)) ∈ lw_tbl := zt_in0 (i := 193) rfl
theorem tw_194 : (Jvm.Cond.instanceMethod ({ cls := "StrataClient$Vote", name := "findBounds", desc := "()V" } : Jvm.MethodName)) ∈ lw_tbl := zt_in0 (i := 194) rfl
theorem tw_195 : (Jvm.Cond.code ({ cls := "StrataClient$Vote", name := "findBounds", desc := "()V" } : Jvm.MethodName) prog_4_method_9_code (6 : Nat) (Option.none : Option Jvm.ClassFile.FieldType)) ∈ lw_tbl := zt_in0 (i := 195) rfl
theorem tw_196 : (Jvm.Cond.methodLink "StrataClient$Vote" (50 : Nat) ({ cls := "StrataClient$Vote", name := "has", desc := "(II)Z" } : Jvm.MethodName)) ∈ lw_tbl := zt_in0 (i := 196) rfl
theorem tw_197 : (Jvm.Cond.static ({ cls := "StrataClient$Vote", name := "has", desc := "(II)Z" } : Jvm.MethodName)) ∈ lw_tbl := zt_in0 (i := 197) rfl
theorem tw_198 : (Jvm.Cond.code ({ cls := "StrataClient$Vote", name := "has", desc := "(II)Z" } : Jvm.MethodName) prog_4_method_2_code (2 : Nat) (Option.some Jvm.ClassFile.FieldType.boolean)) ∈ lw_tbl := zt_in0 (i := 198) rfl
theorem tw_199 : (Jvm.Cond.methodLink "StrataClient$Vote" (95 : Nat) ({ cls := "StrataClient$Vote", name := "isInMost", desc := "(J)Z" } : Jvm.MethodName)) ∈ lw_tbl := zt_in0 (i := 199) rfl
theorem tw_200 : (Jvm.Cond.privateMethod ({ cls := "StrataClient$Vote", name := "isInMost", desc := "(J)Z" } : Jvm.MethodName)) ∈ lw_tbl := zt_in0 (i := 200) rfl
theorem tw_201 : (Jvm.Cond.instanceMethod ({ cls := "StrataClient$Vote", name := "isInMost", desc := "(J)Z" } : Jvm.MethodName)) ∈ lw_tbl := zt_in0 (i := 201) rfl
theorem tw_202 : (Jvm.Cond.code ({ cls := "StrataClient$Vote", name := "isInMost", desc := "(J)Z" } : Jvm.MethodName) prog_4_method_10_code (5 : Nat) (Option.some Jvm.ClassFile.FieldType.boolean)) ∈ lw_tbl := zt_in0 (i := 202) rfl
theorem tw_203 : (Jvm.Cond.methodLink "StrataClient$Vote" (104 : Nat) ({ cls := "java/lang/Math", name := "abs", desc := "(J)J" } : Jvm.MethodName)) ∈ lw_tbl := zt_in0 (i := 203) rfl
theorem tw_204 : (Jvm.Cond.methodLink "StrataClient$Vote" (64 : Nat) ({ cls := "java/lang/Integer", name := "bitCount", desc := "(I)I" } : Jvm.MethodName)) ∈ lw_tbl := zt_in0 (i := 204) rfl
theorem tw_205 : (Jvm.Cond.static ({ cls := "java/lang/Integer", name := "bitCount", desc := "(I)I" } : Jvm.MethodName)) ∈ lw_tbl := zt_in0 (i := 205) rfl
theorem tw_206 : (Jvm.Cond.code ({ cls := "java/lang/Integer", name := "bitCount", desc := "(I)I" } : Jvm.MethodName) prog_11_method_49_code (1 : Nat) (Option.some Jvm.ClassFile.FieldType.int)) ∈ lw_tbl := zt_in0 (i := 206) rfl
theorem tw_207 : (Jvm.Cond.constant "java/lang/Integer" (265 : Nat) (1431655765 : Int32)) ∈ lw_tbl := zt_in0 (i := 207) rfl
theorem tw_208 : (Jvm.Cond.constant "java/lang/Integer" (266 : Nat) (858993459 : Int32)) ∈ lw_tbl := zt_in0 (i := 208) rfl
theorem tw_209 : (Jvm.Cond.constant "java/lang/Integer" (267 : Nat) (252645135 : Int32)) ∈ lw_tbl := zt_in0 (i := 209) rfl
theorem tw_210 : (Jvm.Cond.methodLink "StrataClient$Vote" (99 : Nat) ({ cls := "java/lang/Math", name := "min", desc := "(JJ)J" } : Jvm.MethodName)) ∈ lw_tbl := zt_in0 (i := 210) rfl
theorem tw_211 : (Jvm.Cond.static ({ cls := "java/lang/Math", name := "min", desc := "(JJ)J" } : Jvm.MethodName)) ∈ lw_tbl := zt_in0 (i := 211) rfl
theorem tw_212 : (Jvm.Cond.code ({ cls := "java/lang/Math", name := "min", desc := "(JJ)J" } : Jvm.MethodName) prog_12_method_70_code (4 : Nat) (Option.some Jvm.ClassFile.FieldType.long)) ∈ lw_tbl := zt_in0 (i := 212) rfl
theorem tw_213 : (Jvm.Cond.methodLink "StrataClient$Vote" (102 : Nat) ({ cls := "java/lang/Math", name := "max", desc := "(JJ)J" } : Jvm.MethodName)) ∈ lw_tbl := zt_in0 (i := 213) rfl
theorem tw_214 : (Jvm.Cond.methodLink "StrataClient$Vote" (43 : Nat) ({ cls := "StrataClient$Vote", name := "findSurvivors", desc := "()V" } : Jvm.MethodName)) ∈ lw_tbl := zt_in0 (i := 214) rfl
theorem tw_215 : (Jvm.Cond.privateMethod ({ cls := "StrataClient$Vote", name := "findSurvivors", desc := "()V" } : Jvm.MethodName)) ∈ lw_tbl := zt_in0 (i := 215) rfl
theorem tw_216 : (Jvm.Cond.instanceMethod ({ cls := "StrataClient$Vote", name := "findSurvivors", desc := "()V" } : Jvm.MethodName)) ∈ lw_tbl := zt_in0 (i := 216) rfl
theorem tw_217 : (Jvm.Cond.code ({ cls := "StrataClient$Vote", name := "findSurvivors", desc := "()V" } : Jvm.MethodName) prog_4_method_11_code (2 : Nat) (Option.none : Option Jvm.ClassFile.FieldType)) ∈ lw_tbl := zt_in0 (i := 217) rfl
theorem tw_218 : (Jvm.Cond.methodLink "StrataClient$Vote" (107 : Nat) ({ cls := "StrataClient$Vote", name := "findFarthest", desc := "()I" } : Jvm.MethodName)) ∈ lw_tbl := zt_in0 (i := 218) rfl
theorem tw_219 : (Jvm.Cond.privateMethod ({ cls := "StrataClient$Vote", name := "findFarthest", desc := "()I" } : Jvm.MethodName)) ∈ lw_tbl := zt_in0 (i := 219) rfl
theorem tw_220 : (Jvm.Cond.instanceMethod ({ cls := "StrataClient$Vote", name := "findFarthest", desc := "()I" } : Jvm.MethodName)) ∈ lw_tbl := zt_in0 (i := 220) rfl
theorem tw_221 : (Jvm.Cond.code ({ cls := "StrataClient$Vote", name := "findFarthest", desc := "()I" } : Jvm.MethodName) prog_4_method_12_code (5 : Nat) (Option.some Jvm.ClassFile.FieldType.int)) ∈ lw_tbl := zt_in0 (i := 221) rfl
theorem tw_222 : (Jvm.Cond.constantLong "StrataClient$Vote" (111 : Nat) (-1 : Int64)) ∈ lw_tbl := zt_in0 (i := 222) rfl
theorem tw_223 : (Jvm.Cond.methodLink "StrataClient$Vote" (113 : Nat) ({ cls := "StrataClient$Vote", name := "spreadOf", desc := "(I)J" } : Jvm.MethodName)) ∈ lw_tbl := zt_in0 (i := 223) rfl
theorem tw_224 : (Jvm.Cond.privateMethod ({ cls := "StrataClient$Vote", name := "spreadOf", desc := "(I)J" } : Jvm.MethodName)) ∈ lw_tbl := zt_in0 (i := 224) rfl
theorem tw_225 : (Jvm.Cond.instanceMethod ({ cls := "StrataClient$Vote", name := "spreadOf", desc := "(I)J" } : Jvm.MethodName)) ∈ lw_tbl := zt_in0 (i := 225) rfl
theorem tw_226 : (Jvm.Cond.code ({ cls := "StrataClient$Vote", name := "spreadOf", desc := "(I)J" } : Jvm.MethodName) prog_4_method_13_code (5 : Nat) (Option.some Jvm.ClassFile.FieldType.long)) ∈ lw_tbl := zt_in0 (i := 226) rfl
theorem tw_227 : (Jvm.Cond.methodLink "StrataClientLaw" (144 : Nat) ({ cls := "StrataClient", name := "survivors", desc := "()I" } : Jvm.MethodName)) ∈ lw_tbl := zt_in0 (i := 227) rfl
theorem tw_228 : (Jvm.Cond.instanceMethod ({ cls := "StrataClient", name := "survivors", desc := "()I" } : Jvm.MethodName)) ∈ lw_tbl := zt_in0 (i := 228) rfl
theorem tw_229 : (Jvm.Cond.selects "StrataClient" ({ cls := "StrataClient", name := "survivors", desc := "()I" } : Jvm.MethodName) ({ cls := "StrataClient", name := "survivors", desc := "()I" } : Jvm.MethodName)) ∈ lw_tbl := zt_in0 (i := 229) rfl
theorem tw_230 : (Jvm.Cond.code ({ cls := "StrataClient", name := "survivors", desc := "()I" } : Jvm.MethodName) prog_1_method_19_code (1 : Nat) (Option.some Jvm.ClassFile.FieldType.int)) ∈ lw_tbl := zt_in0 (i := 230) rfl
theorem tw_231 : (Jvm.Cond.methodLink "StrataClientLaw" (80 : Nat) ({ cls := "StrataClientLaw", name := "run", desc := "(LStrataClient;J)I" } : Jvm.MethodName)) ∈ lw_tbl := zt_in0 (i := 231) rfl
theorem tw_232 : (Jvm.Cond.static ({ cls := "StrataClientLaw", name := "run", desc := "(LStrataClient;J)I" } : Jvm.MethodName)) ∈ lw_tbl := zt_in0 (i := 232) rfl
theorem tw_233 : (Jvm.Cond.codeWith ({ cls := "StrataClientLaw", name := "run", desc := "(LStrataClient;J)I" } : Jvm.MethodName) method_3_code (4 : Nat) (Option.some Jvm.ClassFile.FieldType.int) [((0 : Nat), (5 : Nat), (8 : Nat), (13 : Nat))]) ∈ lw_tbl := zt_in0 (i := 233) rfl
theorem tw_234 : (Jvm.Cond.classLink "StrataClientLaw" (13 : Nat) "java/lang/IllegalArgumentException") ∈ lw_tbl := zt_in0 (i := 234) rfl
theorem tw_235 : (Jvm.Cond.methodLink "StrataClientLaw" (7 : Nat) ({ cls := "StrataClient", name := "run", desc := "(J)V" } : Jvm.MethodName)) ∈ lw_tbl := zt_in0 (i := 235) rfl
theorem tw_236 : (Jvm.Cond.instanceMethod ({ cls := "StrataClient", name := "run", desc := "(J)V" } : Jvm.MethodName)) ∈ lw_tbl := zt_in0 (i := 236) rfl
theorem tw_237 : (Jvm.Cond.selects "StrataClient" ({ cls := "StrataClient", name := "run", desc := "(J)V" } : Jvm.MethodName) ({ cls := "StrataClient", name := "run", desc := "(J)V" } : Jvm.MethodName)) ∈ lw_tbl := zt_in0 (i := 237) rfl
theorem tw_238 : (Jvm.Cond.code ({ cls := "StrataClient", name := "run", desc := "(J)V" } : Jvm.MethodName) prog_1_method_2_code (7 : Nat) (Option.none : Option Jvm.ClassFile.FieldType)) ∈ lw_tbl := zt_in0 (i := 238) rfl
theorem tw_239 : (Jvm.Cond.constantLong "StrataClient" (41 : Nat) (1099511627776 : Int64)) ∈ lw_tbl := zt_in0 (i := 239) rfl
theorem tw_240 : (Jvm.Cond.classLink "StrataClient" (43 : Nat) "java/lang/IllegalArgumentException") ∈ lw_tbl := zt_in1 (i := 0) rfl
theorem tw_241 : (Jvm.Cond.instantiable "java/lang/IllegalArgumentException" (6 : Nat)) ∈ lw_tbl := zt_in1 (i := 1) rfl
theorem tw_242 : (Jvm.Cond.castable "java/lang/IllegalArgumentException" "java/lang/IllegalArgumentException") ∈ lw_tbl := zt_in1 (i := 2) rfl
theorem tw_243 : (Jvm.Cond.declares ({ cls := "java/lang/RuntimeException", name := "<init>", desc := "()V" } : Jvm.MethodName)) ∈ lw_tbl := zt_in1 (i := 3) rfl
theorem tw_244 : (Jvm.Cond.declares ({ cls := "java/lang/RuntimeException", name := "<init>", desc := "(Ljava/lang/String;)V" } : Jvm.MethodName)) ∈ lw_tbl := zt_in1 (i := 4) rfl
theorem tw_245 : (Jvm.Cond.declares ({ cls := "java/lang/Exception", name := "<init>", desc := "()V" } : Jvm.MethodName)) ∈ lw_tbl := zt_in1 (i := 5) rfl
theorem tw_246 : (Jvm.Cond.declares ({ cls := "java/lang/Exception", name := "<init>", desc := "(Ljava/lang/String;)V" } : Jvm.MethodName)) ∈ lw_tbl := zt_in1 (i := 6) rfl
theorem tw_247 : (Jvm.Cond.declares ({ cls := "java/lang/Throwable", name := "<init>", desc := "()V" } : Jvm.MethodName)) ∈ lw_tbl := zt_in1 (i := 7) rfl
theorem tw_248 : (Jvm.Cond.declares ({ cls := "java/lang/Throwable", name := "<init>", desc := "(Ljava/lang/String;)V" } : Jvm.MethodName)) ∈ lw_tbl := zt_in1 (i := 8) rfl
theorem tw_249 : (Jvm.Cond.selects "java/lang/IllegalArgumentException" ({ cls := "java/lang/Throwable", name := "fillInStackTrace", desc := "(I)Ljava/lang/Throwable;" } : Jvm.MethodName) ({ cls := "java/lang/Throwable", name := "fillInStackTrace", desc := "(I)Ljava/lang/Throwable;" } : Jvm.MethodName)) ∈ lw_tbl := zt_in1 (i := 9) rfl
theorem tw_250 : (Jvm.Cond.selects "java/lang/IllegalArgumentException" ({ cls := "java/lang/Throwable", name := "fillInStackTrace", desc := "()Ljava/lang/Throwable;" } : Jvm.MethodName) ({ cls := "java/lang/Throwable", name := "fillInStackTrace", desc := "()Ljava/lang/Throwable;" } : Jvm.MethodName)) ∈ lw_tbl := zt_in1 (i := 10) rfl
theorem tw_251 : (Jvm.Cond.lays "java/lang/IllegalArgumentException" "java/lang/Throwable" "cause" "Ljava/lang/Throwable;") ∈ lw_tbl := zt_in1 (i := 11) rfl
theorem tw_252 : (Jvm.Cond.lays "java/lang/Throwable" "java/lang/Throwable" "cause" "Ljava/lang/Throwable;") ∈ lw_tbl := zt_in1 (i := 12) rfl
theorem tw_253 : (Jvm.Cond.lays "java/lang/IllegalArgumentException" "java/lang/Throwable" "stackTrace" "[Ljava/lang/StackTraceElement;") ∈ lw_tbl := zt_in1 (i := 13) rfl
theorem tw_254 : (Jvm.Cond.lays "java/lang/Throwable" "java/lang/Throwable" "stackTrace" "[Ljava/lang/StackTraceElement;") ∈ lw_tbl := zt_in1 (i := 14) rfl
theorem tw_255 : (Jvm.Cond.lays "java/lang/IllegalArgumentException" "java/lang/Throwable" "suppressedExceptions" "Ljava/util/List;") ∈ lw_tbl := zt_in1 (i := 15) rfl
theorem tw_256 : (Jvm.Cond.lays "java/lang/Throwable" "java/lang/Throwable" "suppressedExceptions" "Ljava/util/List;") ∈ lw_tbl := zt_in1 (i := 16) rfl
theorem tw_257 : (Jvm.Cond.lays "java/lang/IllegalArgumentException" "java/lang/Throwable" "detailMessage" "Ljava/lang/String;") ∈ lw_tbl := zt_in1 (i := 17) rfl
theorem tw_258 : (Jvm.Cond.lays "java/lang/Throwable" "java/lang/Throwable" "detailMessage" "Ljava/lang/String;") ∈ lw_tbl := zt_in1 (i := 18) rfl
theorem tw_259 : (Jvm.Cond.lays "java/lang/IllegalArgumentException" "java/lang/Throwable" "backtrace" "Ljava/lang/Object;") ∈ lw_tbl := zt_in1 (i := 19) rfl
theorem tw_260 : (Jvm.Cond.lays "java/lang/Throwable" "java/lang/Throwable" "backtrace" "Ljava/lang/Object;") ∈ lw_tbl := zt_in1 (i := 20) rfl
theorem tw_261 : (Jvm.Cond.fieldLink "java/lang/Throwable" (198 : Nat) "java/lang/Throwable" "backtrace" "Ljava/lang/Object;") ∈ lw_tbl := zt_in1 (i := 21) rfl
theorem tw_262 : (Jvm.Cond.superclass "java/lang/Throwable" "java/lang/Object") ∈ lw_tbl := zt_in1 (i := 22) rfl
theorem tw_263 : (Jvm.Cond.instanceMethod ({ cls := "java/lang/Throwable", name := "<init>", desc := "()V" } : Jvm.MethodName)) ∈ lw_tbl := zt_in1 (i := 23) rfl
theorem tw_264 : (Jvm.Cond.code ({ cls := "java/lang/Throwable", name := "<init>", desc := "()V" } : Jvm.MethodName) prog_14_method_1_code (1 : Nat) (Option.none : Option Jvm.ClassFile.FieldType)) ∈ lw_tbl := zt_in1 (i := 24) rfl
theorem tw_265 : (Jvm.Cond.methodLink "java/lang/Throwable" (1 : Nat) ({ cls := "java/lang/Object", name := "<init>", desc := "()V" } : Jvm.MethodName)) ∈ lw_tbl := zt_in1 (i := 25) rfl
theorem tw_266 : (Jvm.Cond.fieldLink "java/lang/Throwable" (13 : Nat) "java/lang/Throwable" "UNASSIGNED_STACK" "[Ljava/lang/StackTraceElement;") ∈ lw_tbl := zt_in1 (i := 26) rfl
theorem tw_267 : (Jvm.Cond.laysStatic "java/lang/Throwable" "UNASSIGNED_STACK" "[Ljava/lang/StackTraceElement;") ∈ lw_tbl := zt_in1 (i := 27) rfl
theorem tw_268 : (Jvm.Cond.fieldLink "java/lang/Throwable" (20 : Nat) "java/lang/Throwable" "SUPPRESSED_SENTINEL" "Ljava/util/List;") ∈ lw_tbl := zt_in1 (i := 28) rfl
theorem tw_269 : (Jvm.Cond.laysStatic "java/lang/Throwable" "SUPPRESSED_SENTINEL" "Ljava/util/List;") ∈ lw_tbl := zt_in1 (i := 29) rfl
theorem tw_270 : (Jvm.Cond.methodLink "java/lang/Throwable" (27 : Nat) ({ cls := "java/lang/Throwable", name := "fillInStackTrace", desc := "()Ljava/lang/Throwable;" } : Jvm.MethodName)) ∈ lw_tbl := zt_in1 (i := 30) rfl
theorem tw_271 : (Jvm.Cond.instanceMethod ({ cls := "java/lang/Throwable", name := "fillInStackTrace", desc := "()Ljava/lang/Throwable;" } : Jvm.MethodName)) ∈ lw_tbl := zt_in1 (i := 31) rfl
theorem tw_272 : (Jvm.Cond.sameMethod "java/lang/Throwable" "java/lang/Throwable" "fillInStackTrace" "()Ljava/lang/Throwable;") ∈ lw_tbl := zt_in1 (i := 32) rfl
theorem tw_273 : (Jvm.Cond.selects "java/lang/IllegalStateException" ({ cls := "java/lang/Throwable", name := "fillInStackTrace", desc := "()Ljava/lang/Throwable;" } : Jvm.MethodName) ({ cls := "java/lang/Throwable", name := "fillInStackTrace", desc := "()Ljava/lang/Throwable;" } : Jvm.MethodName)) ∈ lw_tbl := zt_in1 (i := 33) rfl
theorem tw_274 : (Jvm.Cond.selects "java/lang/IndexOutOfBoundsException" ({ cls := "java/lang/Throwable", name := "fillInStackTrace", desc := "()Ljava/lang/Throwable;" } : Jvm.MethodName) ({ cls := "java/lang/Throwable", name := "fillInStackTrace", desc := "()Ljava/lang/Throwable;" } : Jvm.MethodName)) ∈ lw_tbl := zt_in1 (i := 34) rfl
theorem tw_275 : (Jvm.Cond.selects "java/lang/UnsupportedOperationException" ({ cls := "java/lang/Throwable", name := "fillInStackTrace", desc := "()Ljava/lang/Throwable;" } : Jvm.MethodName) ({ cls := "java/lang/Throwable", name := "fillInStackTrace", desc := "()Ljava/lang/Throwable;" } : Jvm.MethodName)) ∈ lw_tbl := zt_in1 (i := 35) rfl
theorem tw_276 : (Jvm.Cond.selects "java/util/NoSuchElementException" ({ cls := "java/lang/Throwable", name := "fillInStackTrace", desc := "()Ljava/lang/Throwable;" } : Jvm.MethodName) ({ cls := "java/lang/Throwable", name := "fillInStackTrace", desc := "()Ljava/lang/Throwable;" } : Jvm.MethodName)) ∈ lw_tbl := zt_in1 (i := 36) rfl
theorem tw_277 : (Jvm.Cond.codeSync ({ cls := "java/lang/Throwable", name := "fillInStackTrace", desc := "()Ljava/lang/Throwable;" } : Jvm.MethodName) prog_14_method_18_code (1 : Nat) (Option.some (Jvm.ClassFile.FieldType.object "java/lang/Throwable"))) ∈ lw_tbl := zt_in1 (i := 37) rfl
theorem tw_278 : (Jvm.Cond.methodLink "java/lang/Throwable" (202 : Nat) ({ cls := "java/lang/Throwable", name := "fillInStackTrace", desc := "(I)Ljava/lang/Throwable;" } : Jvm.MethodName)) ∈ lw_tbl := zt_in1 (i := 38) rfl
theorem tw_279 : (Jvm.Cond.privateMethod ({ cls := "java/lang/Throwable", name := "fillInStackTrace", desc := "(I)Ljava/lang/Throwable;" } : Jvm.MethodName)) ∈ lw_tbl := zt_in1 (i := 39) rfl
theorem tw_280 : (Jvm.Cond.instanceMethod ({ cls := "java/lang/Throwable", name := "fillInStackTrace", desc := "(I)Ljava/lang/Throwable;" } : Jvm.MethodName)) ∈ lw_tbl := zt_in1 (i := 40) rfl
theorem tw_281 : (Jvm.Cond.instantiable "java/lang/Throwable" (6 : Nat)) ∈ lw_tbl := zt_in1 (i := 41) rfl
theorem tw_282 : (Jvm.Cond.native ({ cls := "java/lang/Throwable", name := "fillInStackTrace", desc := "(I)Ljava/lang/Throwable;" } : Jvm.MethodName)) ∈ lw_tbl := zt_in1 (i := 42) rfl
theorem tw_283 : (Jvm.Cond.methodLink "StrataClient" (45 : Nat) ({ cls := "java/lang/IllegalArgumentException", name := "<init>", desc := "()V" } : Jvm.MethodName)) ∈ lw_tbl := zt_in1 (i := 43) rfl
theorem tw_284 : (Jvm.Cond.instanceMethod ({ cls := "java/lang/IllegalArgumentException", name := "<init>", desc := "()V" } : Jvm.MethodName)) ∈ lw_tbl := zt_in1 (i := 44) rfl
theorem tw_285 : (Jvm.Cond.code ({ cls := "java/lang/IllegalArgumentException", name := "<init>", desc := "()V" } : Jvm.MethodName) prog_8_method_1_code (1 : Nat) (Option.none : Option Jvm.ClassFile.FieldType)) ∈ lw_tbl := zt_in1 (i := 45) rfl
theorem tw_286 : (Jvm.Cond.methodLink "java/lang/IllegalArgumentException" (1 : Nat) ({ cls := "java/lang/RuntimeException", name := "<init>", desc := "()V" } : Jvm.MethodName)) ∈ lw_tbl := zt_in1 (i := 46) rfl
theorem tw_287 : (Jvm.Cond.instanceMethod ({ cls := "java/lang/RuntimeException", name := "<init>", desc := "()V" } : Jvm.MethodName)) ∈ lw_tbl := zt_in1 (i := 47) rfl
theorem tw_288 : (Jvm.Cond.code ({ cls := "java/lang/RuntimeException", name := "<init>", desc := "()V" } : Jvm.MethodName) prog_13_method_1_code (1 : Nat) (Option.none : Option Jvm.ClassFile.FieldType)) ∈ lw_tbl := zt_in1 (i := 48) rfl
theorem tw_289 : (Jvm.Cond.methodLink "java/lang/RuntimeException" (1 : Nat) ({ cls := "java/lang/Exception", name := "<init>", desc := "()V" } : Jvm.MethodName)) ∈ lw_tbl := zt_in1 (i := 49) rfl
theorem tw_290 : (Jvm.Cond.instanceMethod ({ cls := "java/lang/Exception", name := "<init>", desc := "()V" } : Jvm.MethodName)) ∈ lw_tbl := zt_in1 (i := 50) rfl
theorem tw_291 : (Jvm.Cond.code ({ cls := "java/lang/Exception", name := "<init>", desc := "()V" } : Jvm.MethodName) prog_7_method_1_code (1 : Nat) (Option.none : Option Jvm.ClassFile.FieldType)) ∈ lw_tbl := zt_in1 (i := 51) rfl
theorem tw_292 : (Jvm.Cond.methodLink "java/lang/Exception" (1 : Nat) ({ cls := "java/lang/Throwable", name := "<init>", desc := "()V" } : Jvm.MethodName)) ∈ lw_tbl := zt_in1 (i := 52) rfl
theorem tw_293 : (Jvm.Cond.fieldLink "java/lang/Throwable" (198 : Nat) "java/lang/Throwable" "backtrace" "Ljava/lang/Object;") ∈ lw_tbl := zt_in1 (i := 53) rfl
theorem tw_294 : (Jvm.Cond.fieldLink "java/lang/Throwable" (7 : Nat) "java/lang/Throwable" "cause" "Ljava/lang/Throwable;") ∈ lw_tbl := zt_in1 (i := 54) rfl
theorem tw_295 : (Jvm.Cond.fieldLink "java/lang/Throwable" (17 : Nat) "java/lang/Throwable" "stackTrace" "[Ljava/lang/StackTraceElement;") ∈ lw_tbl := zt_in1 (i := 55) rfl
theorem tw_296 : (Jvm.Cond.fieldLink "java/lang/Throwable" (24 : Nat) "java/lang/Throwable" "suppressedExceptions" "Ljava/util/List;") ∈ lw_tbl := zt_in1 (i := 56) rfl
theorem tw_297 : (Jvm.Cond.soleField "java/lang/Throwable" "backtrace") ∈ lw_tbl := zt_in1 (i := 57) rfl
theorem tw_298 : (Jvm.Cond.soleField "java/lang/Throwable" "detailMessage") ∈ lw_tbl := zt_in1 (i := 58) rfl
theorem tw_299 : (Jvm.Cond.soleField "java/lang/Throwable" "cause") ∈ lw_tbl := zt_in1 (i := 59) rfl
theorem tw_300 : (Jvm.Cond.soleField "java/lang/Throwable" "stackTrace") ∈ lw_tbl := zt_in1 (i := 60) rfl
theorem tw_301 : (Jvm.Cond.lays "java/lang/IllegalArgumentException" "java/lang/Throwable" "depth" "I") ∈ lw_tbl := zt_in1 (i := 61) rfl
theorem tw_302 : (Jvm.Cond.soleField "java/lang/Throwable" "depth") ∈ lw_tbl := zt_in1 (i := 62) rfl
theorem tw_303 : (Jvm.Cond.soleField "java/lang/Throwable" "suppressedExceptions") ∈ lw_tbl := zt_in1 (i := 63) rfl
theorem tw_304 : (Jvm.Cond.superclass "java/lang/IllegalArgumentException" "java/lang/RuntimeException") ∈ lw_tbl := zt_in1 (i := 64) rfl
theorem tw_305 : (Jvm.Cond.constantLong "StrataClient" (46 : Nat) (2048 : Int64)) ∈ lw_tbl := zt_in1 (i := 65) rfl
theorem tw_306 : (Jvm.Cond.methodLink "StrataClient" (48 : Nat) ({ cls := "java/lang/Math", name := "min", desc := "(JJ)J" } : Jvm.MethodName)) ∈ lw_tbl := zt_in1 (i := 66) rfl
theorem tw_307 : (Jvm.Cond.methodLink "StrataClient" (54 : Nat) ({ cls := "java/lang/Math", name := "max", desc := "(JJ)J" } : Jvm.MethodName)) ∈ lw_tbl := zt_in1 (i := 67) rfl
theorem tw_308 : (Jvm.Cond.methodLink "StrataClientLaw" (97 : Nat) ({ cls := "StrataClientLaw", name := "put", desc := "(LStrataClient;IJI)I" } : Jvm.MethodName)) ∈ lw_tbl := zt_in1 (i := 68) rfl
theorem tw_309 : (Jvm.Cond.static ({ cls := "StrataClientLaw", name := "put", desc := "(LStrataClient;IJI)I" } : Jvm.MethodName)) ∈ lw_tbl := zt_in1 (i := 69) rfl
theorem tw_310 : (Jvm.Cond.codeWith ({ cls := "StrataClientLaw", name := "put", desc := "(LStrataClient;IJI)I" } : Jvm.MethodName) method_4_code (6 : Nat) (Option.some Jvm.ClassFile.FieldType.int) [((0 : Nat), (8 : Nat), (11 : Nat), (13 : Nat)), ((0 : Nat), (8 : Nat), (15 : Nat), (19 : Nat))]) ∈ lw_tbl := zt_in1 (i := 70) rfl
theorem tw_311 : (Jvm.Cond.classLink "StrataClientLaw" (19 : Nat) "java/lang/IndexOutOfBoundsException") ∈ lw_tbl := zt_in1 (i := 71) rfl
theorem tw_312 : (Jvm.Cond.methodLink "StrataClientLaw" (15 : Nat) ({ cls := "StrataClient", name := "put", desc := "(IJI)V" } : Jvm.MethodName)) ∈ lw_tbl := zt_in1 (i := 72) rfl
theorem tw_313 : (Jvm.Cond.instanceMethod ({ cls := "StrataClient", name := "put", desc := "(IJI)V" } : Jvm.MethodName)) ∈ lw_tbl := zt_in1 (i := 73) rfl
theorem tw_314 : (Jvm.Cond.selects "StrataClient" ({ cls := "StrataClient", name := "put", desc := "(IJI)V" } : Jvm.MethodName) ({ cls := "StrataClient", name := "put", desc := "(IJI)V" } : Jvm.MethodName)) ∈ lw_tbl := zt_in1 (i := 74) rfl
theorem tw_315 : (Jvm.Cond.code ({ cls := "StrataClient", name := "put", desc := "(IJI)V" } : Jvm.MethodName) prog_1_method_5_code (5 : Nat) (Option.none : Option Jvm.ClassFile.FieldType)) ∈ lw_tbl := zt_in1 (i := 75) rfl
theorem tw_316 : (Jvm.Cond.classLink "StrataClient" (57 : Nat) "java/lang/IndexOutOfBoundsException") ∈ lw_tbl := zt_in1 (i := 76) rfl
theorem tw_317 : (Jvm.Cond.instantiable "java/lang/IndexOutOfBoundsException" (6 : Nat)) ∈ lw_tbl := zt_in1 (i := 77) rfl
theorem tw_318 : (Jvm.Cond.castable "java/lang/IndexOutOfBoundsException" "java/lang/IndexOutOfBoundsException") ∈ lw_tbl := zt_in1 (i := 78) rfl
theorem tw_319 : (Jvm.Cond.selects "java/lang/IndexOutOfBoundsException" ({ cls := "java/lang/Throwable", name := "fillInStackTrace", desc := "(I)Ljava/lang/Throwable;" } : Jvm.MethodName) ({ cls := "java/lang/Throwable", name := "fillInStackTrace", desc := "(I)Ljava/lang/Throwable;" } : Jvm.MethodName)) ∈ lw_tbl := zt_in1 (i := 79) rfl
theorem tw_320 : (Jvm.Cond.lays "java/lang/IndexOutOfBoundsException" "java/lang/Throwable" "cause" "Ljava/lang/Throwable;") ∈ lw_tbl := zt_in1 (i := 80) rfl
theorem tw_321 : (Jvm.Cond.lays "java/lang/IndexOutOfBoundsException" "java/lang/Throwable" "stackTrace" "[Ljava/lang/StackTraceElement;") ∈ lw_tbl := zt_in1 (i := 81) rfl
theorem tw_322 : (Jvm.Cond.lays "java/lang/IndexOutOfBoundsException" "java/lang/Throwable" "suppressedExceptions" "Ljava/util/List;") ∈ lw_tbl := zt_in1 (i := 82) rfl
theorem tw_323 : (Jvm.Cond.lays "java/lang/IndexOutOfBoundsException" "java/lang/Throwable" "detailMessage" "Ljava/lang/String;") ∈ lw_tbl := zt_in1 (i := 83) rfl
theorem tw_324 : (Jvm.Cond.lays "java/lang/IndexOutOfBoundsException" "java/lang/Throwable" "backtrace" "Ljava/lang/Object;") ∈ lw_tbl := zt_in1 (i := 84) rfl
theorem tw_325 : (Jvm.Cond.methodLink "StrataClient" (59 : Nat) ({ cls := "java/lang/IndexOutOfBoundsException", name := "<init>", desc := "()V" } : Jvm.MethodName)) ∈ lw_tbl := zt_in1 (i := 85) rfl
theorem tw_326 : (Jvm.Cond.instanceMethod ({ cls := "java/lang/IndexOutOfBoundsException", name := "<init>", desc := "()V" } : Jvm.MethodName)) ∈ lw_tbl := zt_in1 (i := 86) rfl
theorem tw_327 : (Jvm.Cond.code ({ cls := "java/lang/IndexOutOfBoundsException", name := "<init>", desc := "()V" } : Jvm.MethodName) prog_10_method_1_code (1 : Nat) (Option.none : Option Jvm.ClassFile.FieldType)) ∈ lw_tbl := zt_in1 (i := 87) rfl
theorem tw_328 : (Jvm.Cond.methodLink "java/lang/IndexOutOfBoundsException" (1 : Nat) ({ cls := "java/lang/RuntimeException", name := "<init>", desc := "()V" } : Jvm.MethodName)) ∈ lw_tbl := zt_in1 (i := 88) rfl
theorem tw_329 : (Jvm.Cond.lays "java/lang/IndexOutOfBoundsException" "java/lang/Throwable" "depth" "I") ∈ lw_tbl := zt_in1 (i := 89) rfl
theorem tw_330 : (Jvm.Cond.superclass "java/lang/IndexOutOfBoundsException" "java/lang/RuntimeException") ∈ lw_tbl := zt_in1 (i := 90) rfl
theorem tw_331 : (Jvm.Cond.methodLink "StrataClient" (60 : Nat) ({ cls := "StrataClient$Packet", name := "write", desc := "(IJI)V" } : Jvm.MethodName)) ∈ lw_tbl := zt_in1 (i := 91) rfl
theorem tw_332 : (Jvm.Cond.instanceMethod ({ cls := "StrataClient$Packet", name := "write", desc := "(IJI)V" } : Jvm.MethodName)) ∈ lw_tbl := zt_in1 (i := 92) rfl
theorem tw_333 : (Jvm.Cond.selects "StrataClient$Packet" ({ cls := "StrataClient$Packet", name := "write", desc := "(IJI)V" } : Jvm.MethodName) ({ cls := "StrataClient$Packet", name := "write", desc := "(IJI)V" } : Jvm.MethodName)) ∈ lw_tbl := zt_in1 (i := 93) rfl
theorem tw_334 : (Jvm.Cond.code ({ cls := "StrataClient$Packet", name := "write", desc := "(IJI)V" } : Jvm.MethodName) prog_2_method_2_code (6 : Nat) (Option.none : Option Jvm.ClassFile.FieldType)) ∈ lw_tbl := zt_in1 (i := 94) rfl
theorem tw_335 : (Jvm.Cond.methodLink "StrataClientLaw" (101 : Nat) ({ cls := "StrataClientLaw", name := "echo", desc := "(LStrataClient;IJJ)I" } : Jvm.MethodName)) ∈ lw_tbl := zt_in1 (i := 95) rfl
theorem tw_336 : (Jvm.Cond.static ({ cls := "StrataClientLaw", name := "echo", desc := "(LStrataClient;IJJ)I" } : Jvm.MethodName)) ∈ lw_tbl := zt_in1 (i := 96) rfl
theorem tw_337 : (Jvm.Cond.codeWith ({ cls := "StrataClientLaw", name := "echo", desc := "(LStrataClient;IJJ)I" } : Jvm.MethodName) method_5_code (7 : Nat) (Option.some Jvm.ClassFile.FieldType.int) [((0 : Nat), (8 : Nat), (11 : Nat), (19 : Nat)), ((0 : Nat), (8 : Nat), (15 : Nat), (25 : Nat))]) ∈ lw_tbl := zt_in1 (i := 97) rfl
theorem tw_338 : (Jvm.Cond.classLink "StrataClientLaw" (25 : Nat) "java/lang/IllegalStateException") ∈ lw_tbl := zt_in1 (i := 98) rfl
theorem tw_339 : (Jvm.Cond.methodLink "StrataClientLaw" (21 : Nat) ({ cls := "StrataClient", name := "echo", desc := "(IJJ)V" } : Jvm.MethodName)) ∈ lw_tbl := zt_in1 (i := 99) rfl
theorem tw_340 : (Jvm.Cond.instanceMethod ({ cls := "StrataClient", name := "echo", desc := "(IJJ)V" } : Jvm.MethodName)) ∈ lw_tbl := zt_in1 (i := 100) rfl
theorem tw_341 : (Jvm.Cond.selects "StrataClient" ({ cls := "StrataClient", name := "echo", desc := "(IJJ)V" } : Jvm.MethodName) ({ cls := "StrataClient", name := "echo", desc := "(IJJ)V" } : Jvm.MethodName)) ∈ lw_tbl := zt_in1 (i := 101) rfl
theorem tw_342 : (Jvm.Cond.code ({ cls := "StrataClient", name := "echo", desc := "(IJJ)V" } : Jvm.MethodName) prog_1_method_6_code (7 : Nat) (Option.none : Option Jvm.ClassFile.FieldType)) ∈ lw_tbl := zt_in1 (i := 102) rfl
theorem tw_343 : (Jvm.Cond.methodLink "StrataClient" (64 : Nat) ({ cls := "StrataClient", name := "serverAt", desc := "(I)LStrataClient$Server;" } : Jvm.MethodName)) ∈ lw_tbl := zt_in1 (i := 103) rfl
theorem tw_344 : (Jvm.Cond.privateMethod ({ cls := "StrataClient", name := "serverAt", desc := "(I)LStrataClient$Server;" } : Jvm.MethodName)) ∈ lw_tbl := zt_in1 (i := 104) rfl
theorem tw_345 : (Jvm.Cond.instanceMethod ({ cls := "StrataClient", name := "serverAt", desc := "(I)LStrataClient$Server;" } : Jvm.MethodName)) ∈ lw_tbl := zt_in1 (i := 105) rfl
theorem tw_346 : (Jvm.Cond.code ({ cls := "StrataClient", name := "serverAt", desc := "(I)LStrataClient$Server;" } : Jvm.MethodName) prog_1_method_22_code (2 : Nat) (Option.some (Jvm.ClassFile.FieldType.object "StrataClient$Server"))) ∈ lw_tbl := zt_in1 (i := 106) rfl
theorem tw_347 : (Jvm.Cond.classLink "StrataClient" (71 : Nat) "java/lang/IllegalStateException") ∈ lw_tbl := zt_in1 (i := 107) rfl
theorem tw_348 : (Jvm.Cond.instantiable "java/lang/IllegalStateException" (6 : Nat)) ∈ lw_tbl := zt_in1 (i := 108) rfl
theorem tw_349 : (Jvm.Cond.castable "java/lang/IllegalStateException" "java/lang/IllegalStateException") ∈ lw_tbl := zt_in1 (i := 109) rfl
theorem tw_350 : (Jvm.Cond.selects "java/lang/IllegalStateException" ({ cls := "java/lang/Throwable", name := "fillInStackTrace", desc := "(I)Ljava/lang/Throwable;" } : Jvm.MethodName) ({ cls := "java/lang/Throwable", name := "fillInStackTrace", desc := "(I)Ljava/lang/Throwable;" } : Jvm.MethodName)) ∈ lw_tbl := zt_in1 (i := 110) rfl
theorem tw_351 : (Jvm.Cond.lays "java/lang/IllegalStateException" "java/lang/Throwable" "cause" "Ljava/lang/Throwable;") ∈ lw_tbl := zt_in1 (i := 111) rfl
theorem tw_352 : (Jvm.Cond.lays "java/lang/IllegalStateException" "java/lang/Throwable" "stackTrace" "[Ljava/lang/StackTraceElement;") ∈ lw_tbl := zt_in1 (i := 112) rfl
theorem tw_353 : (Jvm.Cond.lays "java/lang/IllegalStateException" "java/lang/Throwable" "suppressedExceptions" "Ljava/util/List;") ∈ lw_tbl := zt_in1 (i := 113) rfl
theorem tw_354 : (Jvm.Cond.lays "java/lang/IllegalStateException" "java/lang/Throwable" "detailMessage" "Ljava/lang/String;") ∈ lw_tbl := zt_in1 (i := 114) rfl
theorem tw_355 : (Jvm.Cond.lays "java/lang/IllegalStateException" "java/lang/Throwable" "backtrace" "Ljava/lang/Object;") ∈ lw_tbl := zt_in1 (i := 115) rfl
theorem tw_356 : (Jvm.Cond.methodLink "StrataClient" (73 : Nat) ({ cls := "java/lang/IllegalStateException", name := "<init>", desc := "()V" } : Jvm.MethodName)) ∈ lw_tbl := zt_in1 (i := 116) rfl
theorem tw_357 : (Jvm.Cond.instanceMethod ({ cls := "java/lang/IllegalStateException", name := "<init>", desc := "()V" } : Jvm.MethodName)) ∈ lw_tbl := zt_in1 (i := 117) rfl
theorem tw_358 : (Jvm.Cond.code ({ cls := "java/lang/IllegalStateException", name := "<init>", desc := "()V" } : Jvm.MethodName) prog_9_method_1_code (1 : Nat) (Option.none : Option Jvm.ClassFile.FieldType)) ∈ lw_tbl := zt_in1 (i := 118) rfl
theorem tw_359 : (Jvm.Cond.methodLink "java/lang/IllegalStateException" (1 : Nat) ({ cls := "java/lang/RuntimeException", name := "<init>", desc := "()V" } : Jvm.MethodName)) ∈ lw_tbl := zt_in1 (i := 119) rfl
theorem tw_360 : (Jvm.Cond.lays "java/lang/IllegalStateException" "java/lang/Throwable" "depth" "I") ∈ lw_tbl := zt_in1 (i := 120) rfl
theorem tw_361 : (Jvm.Cond.superclass "java/lang/IllegalStateException" "java/lang/RuntimeException") ∈ lw_tbl := zt_in1 (i := 121) rfl
theorem tw_362 : (Jvm.Cond.constantLong "StrataClient" (74 : Nat) (36 : Int64)) ∈ lw_tbl := zt_in1 (i := 122) rfl
theorem tw_363 : (Jvm.Cond.methodLink "StrataClientLaw" (105 : Nat) ({ cls := "StrataClientLaw", name := "send", desc := "(LStrataClient;I[J)I" } : Jvm.MethodName)) ∈ lw_tbl := zt_in1 (i := 123) rfl
theorem tw_364 : (Jvm.Cond.static ({ cls := "StrataClientLaw", name := "send", desc := "(LStrataClient;I[J)I" } : Jvm.MethodName)) ∈ lw_tbl := zt_in1 (i := 124) rfl
theorem tw_365 : (Jvm.Cond.codeWith ({ cls := "StrataClientLaw", name := "send", desc := "(LStrataClient;I[J)I" } : Jvm.MethodName) method_6_code (4 : Nat) (Option.some Jvm.ClassFile.FieldType.int) [((0 : Nat), (8 : Nat), (11 : Nat), (19 : Nat)), ((0 : Nat), (8 : Nat), (14 : Nat), (25 : Nat))]) ∈ lw_tbl := zt_in1 (i := 125) rfl
theorem tw_366 : (Jvm.Cond.methodLink "StrataClientLaw" (27 : Nat) ({ cls := "StrataClient", name := "send", desc := "(I)J" } : Jvm.MethodName)) ∈ lw_tbl := zt_in1 (i := 126) rfl
theorem tw_367 : (Jvm.Cond.instanceMethod ({ cls := "StrataClient", name := "send", desc := "(I)J" } : Jvm.MethodName)) ∈ lw_tbl := zt_in1 (i := 127) rfl
theorem tw_368 : (Jvm.Cond.selects "StrataClient" ({ cls := "StrataClient", name := "send", desc := "(I)J" } : Jvm.MethodName) ({ cls := "StrataClient", name := "send", desc := "(I)J" } : Jvm.MethodName)) ∈ lw_tbl := zt_in1 (i := 128) rfl
theorem tw_369 : (Jvm.Cond.code ({ cls := "StrataClient", name := "send", desc := "(I)J" } : Jvm.MethodName) prog_1_method_7_code (3 : Nat) (Option.some Jvm.ClassFile.FieldType.long)) ∈ lw_tbl := zt_in1 (i := 129) rfl
theorem tw_370 : (Jvm.Cond.methodLink "StrataClient" (82 : Nat) ({ cls := "StrataClient$Server", name := "expect", desc := "(J)V" } : Jvm.MethodName)) ∈ lw_tbl := zt_in1 (i := 130) rfl
theorem tw_371 : (Jvm.Cond.instanceMethod ({ cls := "StrataClient$Server", name := "expect", desc := "(J)V" } : Jvm.MethodName)) ∈ lw_tbl := zt_in1 (i := 131) rfl
theorem tw_372 : (Jvm.Cond.selects "StrataClient$Server" ({ cls := "StrataClient$Server", name := "expect", desc := "(J)V" } : Jvm.MethodName) ({ cls := "StrataClient$Server", name := "expect", desc := "(J)V" } : Jvm.MethodName)) ∈ lw_tbl := zt_in1 (i := 132) rfl
theorem tw_373 : (Jvm.Cond.code ({ cls := "StrataClient$Server", name := "expect", desc := "(J)V" } : Jvm.MethodName) prog_3_method_2_code (3 : Nat) (Option.none : Option Jvm.ClassFile.FieldType)) ∈ lw_tbl := zt_in1 (i := 133) rfl
theorem tw_374 : (Jvm.Cond.methodLink "StrataClientLaw" (109 : Nat) ({ cls := "StrataClientLaw", name := "receive", desc := "(LStrataClient;I[J)I" } : Jvm.MethodName)) ∈ lw_tbl := zt_in1 (i := 134) rfl
theorem tw_375 : (Jvm.Cond.static ({ cls := "StrataClientLaw", name := "receive", desc := "(LStrataClient;I[J)I" } : Jvm.MethodName)) ∈ lw_tbl := zt_in1 (i := 135) rfl
theorem tw_376 : (Jvm.Cond.codeWith ({ cls := "StrataClientLaw", name := "receive", desc := "(LStrataClient;I[J)I" } : Jvm.MethodName) method_7_code (4 : Nat) (Option.some Jvm.ClassFile.FieldType.int) [((0 : Nat), (9 : Nat), (12 : Nat), (19 : Nat)), ((0 : Nat), (9 : Nat), (15 : Nat), (13 : Nat)), ((0 : Nat), (9 : Nat), (18 : Nat), (25 : Nat))]) ∈ lw_tbl := zt_in1 (i := 136) rfl
theorem tw_377 : (Jvm.Cond.methodLink "StrataClientLaw" (31 : Nat) ({ cls := "StrataClient", name := "receive", desc := "(I)I" } : Jvm.MethodName)) ∈ lw_tbl := zt_in1 (i := 137) rfl
theorem tw_378 : (Jvm.Cond.instanceMethod ({ cls := "StrataClient", name := "receive", desc := "(I)I" } : Jvm.MethodName)) ∈ lw_tbl := zt_in1 (i := 138) rfl
theorem tw_379 : (Jvm.Cond.selects "StrataClient" ({ cls := "StrataClient", name := "receive", desc := "(I)I" } : Jvm.MethodName) ({ cls := "StrataClient", name := "receive", desc := "(I)I" } : Jvm.MethodName)) ∈ lw_tbl := zt_in1 (i := 139) rfl
theorem tw_380 : (Jvm.Cond.code ({ cls := "StrataClient", name := "receive", desc := "(I)I" } : Jvm.MethodName) prog_1_method_8_code (3 : Nat) (Option.some Jvm.ClassFile.FieldType.int)) ∈ lw_tbl := zt_in1 (i := 140) rfl
theorem tw_381 : (Jvm.Cond.methodLink "StrataClient" (86 : Nat) ({ cls := "StrataClient$Packet", name := "isAnswer", desc := "()Z" } : Jvm.MethodName)) ∈ lw_tbl := zt_in1 (i := 141) rfl
theorem tw_382 : (Jvm.Cond.instanceMethod ({ cls := "StrataClient$Packet", name := "isAnswer", desc := "()Z" } : Jvm.MethodName)) ∈ lw_tbl := zt_in1 (i := 142) rfl
theorem tw_383 : (Jvm.Cond.selects "StrataClient$Packet" ({ cls := "StrataClient$Packet", name := "isAnswer", desc := "()Z" } : Jvm.MethodName) ({ cls := "StrataClient$Packet", name := "isAnswer", desc := "()Z" } : Jvm.MethodName)) ∈ lw_tbl := zt_in1 (i := 143) rfl
theorem tw_384 : (Jvm.Cond.code ({ cls := "StrataClient$Packet", name := "isAnswer", desc := "()Z" } : Jvm.MethodName) prog_2_method_4_code (2 : Nat) (Option.some Jvm.ClassFile.FieldType.boolean)) ∈ lw_tbl := zt_in1 (i := 144) rfl
theorem tw_385 : (Jvm.Cond.methodLink "StrataClient$Packet" (13 : Nat) ({ cls := "StrataClient$Packet", name := "read", desc := "(II)J" } : Jvm.MethodName)) ∈ lw_tbl := zt_in1 (i := 145) rfl
theorem tw_386 : (Jvm.Cond.instanceMethod ({ cls := "StrataClient$Packet", name := "read", desc := "(II)J" } : Jvm.MethodName)) ∈ lw_tbl := zt_in1 (i := 146) rfl
theorem tw_387 : (Jvm.Cond.selects "StrataClient$Packet" ({ cls := "StrataClient$Packet", name := "read", desc := "(II)J" } : Jvm.MethodName) ({ cls := "StrataClient$Packet", name := "read", desc := "(II)J" } : Jvm.MethodName)) ∈ lw_tbl := zt_in1 (i := 147) rfl
theorem tw_388 : (Jvm.Cond.code ({ cls := "StrataClient$Packet", name := "read", desc := "(II)J" } : Jvm.MethodName) prog_2_method_3_code (6 : Nat) (Option.some Jvm.ClassFile.FieldType.long)) ∈ lw_tbl := zt_in1 (i := 148) rfl
theorem tw_389 : (Jvm.Cond.methodLink "StrataClient" (90 : Nat) ({ cls := "StrataClient$Packet", name := "read", desc := "(II)J" } : Jvm.MethodName)) ∈ lw_tbl := zt_in1 (i := 149) rfl
theorem tw_390 : (Jvm.Cond.methodLink "StrataClient" (94 : Nat) ({ cls := "StrataClient$Packet", name := "stratum", desc := "()I" } : Jvm.MethodName)) ∈ lw_tbl := zt_in1 (i := 150) rfl
theorem tw_391 : (Jvm.Cond.instanceMethod ({ cls := "StrataClient$Packet", name := "stratum", desc := "()I" } : Jvm.MethodName)) ∈ lw_tbl := zt_in1 (i := 151) rfl
theorem tw_392 : (Jvm.Cond.selects "StrataClient$Packet" ({ cls := "StrataClient$Packet", name := "stratum", desc := "()I" } : Jvm.MethodName) ({ cls := "StrataClient$Packet", name := "stratum", desc := "()I" } : Jvm.MethodName)) ∈ lw_tbl := zt_in1 (i := 152) rfl
theorem tw_393 : (Jvm.Cond.code ({ cls := "StrataClient$Packet", name := "stratum", desc := "()I" } : Jvm.MethodName) prog_2_method_6_code (1 : Nat) (Option.some Jvm.ClassFile.FieldType.int)) ∈ lw_tbl := zt_in1 (i := 153) rfl
theorem tw_394 : (Jvm.Cond.methodLink "StrataClient" (98 : Nat) ({ cls := "StrataClient$Server", name := "obey", desc := "(J)V" } : Jvm.MethodName)) ∈ lw_tbl := zt_in1 (i := 154) rfl
theorem tw_395 : (Jvm.Cond.instanceMethod ({ cls := "StrataClient$Server", name := "obey", desc := "(J)V" } : Jvm.MethodName)) ∈ lw_tbl := zt_in1 (i := 155) rfl
theorem tw_396 : (Jvm.Cond.selects "StrataClient$Server" ({ cls := "StrataClient$Server", name := "obey", desc := "(J)V" } : Jvm.MethodName) ({ cls := "StrataClient$Server", name := "obey", desc := "(J)V" } : Jvm.MethodName)) ∈ lw_tbl := zt_in1 (i := 156) rfl
theorem tw_397 : (Jvm.Cond.code ({ cls := "StrataClient$Server", name := "obey", desc := "(J)V" } : Jvm.MethodName) prog_3_method_3_code (3 : Nat) (Option.none : Option Jvm.ClassFile.FieldType)) ∈ lw_tbl := zt_in1 (i := 157) rfl
theorem tw_398 : (Jvm.Cond.constantLong "StrataClient$Server" (49 : Nat) (1145392729 : Int64)) ∈ lw_tbl := zt_in1 (i := 158) rfl
theorem tw_399 : (Jvm.Cond.constantLong "StrataClient$Server" (51 : Nat) (1381192786 : Int64)) ∈ lw_tbl := zt_in1 (i := 159) rfl
theorem tw_400 : (Jvm.Cond.constantLong "StrataClient$Server" (53 : Nat) (1380013125 : Int64)) ∈ lw_tbl := zt_in1 (i := 160) rfl
theorem tw_401 : (Jvm.Cond.methodLink "StrataClient$Server" (55 : Nat) ({ cls := "StrataClient$Server", name := "pollLater", desc := "()V" } : Jvm.MethodName)) ∈ lw_tbl := zt_in1 (i := 161) rfl
theorem tw_402 : (Jvm.Cond.instanceMethod ({ cls := "StrataClient$Server", name := "pollLater", desc := "()V" } : Jvm.MethodName)) ∈ lw_tbl := zt_in1 (i := 162) rfl
theorem tw_403 : (Jvm.Cond.selects "StrataClient$Server" ({ cls := "StrataClient$Server", name := "pollLater", desc := "()V" } : Jvm.MethodName) ({ cls := "StrataClient$Server", name := "pollLater", desc := "()V" } : Jvm.MethodName)) ∈ lw_tbl := zt_in1 (i := 163) rfl
theorem tw_404 : (Jvm.Cond.code ({ cls := "StrataClient$Server", name := "pollLater", desc := "()V" } : Jvm.MethodName) prog_3_method_4_code (1 : Nat) (Option.none : Option Jvm.ClassFile.FieldType)) ∈ lw_tbl := zt_in1 (i := 164) rfl
theorem tw_405 : (Jvm.Cond.methodLink "StrataClient$Server" (58 : Nat) ({ cls := "java/lang/Math", name := "min", desc := "(II)I" } : Jvm.MethodName)) ∈ lw_tbl := zt_in1 (i := 165) rfl
theorem tw_406 : (Jvm.Cond.static ({ cls := "java/lang/Math", name := "min", desc := "(II)I" } : Jvm.MethodName)) ∈ lw_tbl := zt_in1 (i := 166) rfl
theorem tw_407 : (Jvm.Cond.code ({ cls := "java/lang/Math", name := "min", desc := "(II)I" } : Jvm.MethodName) prog_12_method_69_code (2 : Nat) (Option.some Jvm.ClassFile.FieldType.int)) ∈ lw_tbl := zt_in1 (i := 167) rfl
theorem tw_408 : (Jvm.Cond.methodLink "StrataClient" (101 : Nat) ({ cls := "StrataClient$Packet", name := "isSynchronized", desc := "()Z" } : Jvm.MethodName)) ∈ lw_tbl := zt_in1 (i := 168) rfl
theorem tw_409 : (Jvm.Cond.instanceMethod ({ cls := "StrataClient$Packet", name := "isSynchronized", desc := "()Z" } : Jvm.MethodName)) ∈ lw_tbl := zt_in1 (i := 169) rfl
theorem tw_410 : (Jvm.Cond.selects "StrataClient$Packet" ({ cls := "StrataClient$Packet", name := "isSynchronized", desc := "()Z" } : Jvm.MethodName) ({ cls := "StrataClient$Packet", name := "isSynchronized", desc := "()Z" } : Jvm.MethodName)) ∈ lw_tbl := zt_in1 (i := 170) rfl
theorem tw_411 : (Jvm.Cond.code ({ cls := "StrataClient$Packet", name := "isSynchronized", desc := "()Z" } : Jvm.MethodName) prog_2_method_5_code (1 : Nat) (Option.some Jvm.ClassFile.FieldType.boolean)) ∈ lw_tbl := zt_in1 (i := 171) rfl
theorem tw_412 : (Jvm.Cond.methodLink "StrataClient$Packet" (17 : Nat) ({ cls := "StrataClient$Packet", name := "stratum", desc := "()I" } : Jvm.MethodName)) ∈ lw_tbl := zt_in1 (i := 172) rfl
theorem tw_413 : (Jvm.Cond.methodLink "StrataClient" (104 : Nat) ({ cls := "StrataClient", name := "takeTimes", desc := "(LStrataClient$Server;)I" } : Jvm.MethodName)) ∈ lw_tbl := zt_in1 (i := 173) rfl
theorem tw_414 : (Jvm.Cond.privateMethod ({ cls := "StrataClient", name := "takeTimes", desc := "(LStrataClient$Server;)I" } : Jvm.MethodName)) ∈ lw_tbl := zt_in1 (i := 174) rfl
theorem tw_415 : (Jvm.Cond.instanceMethod ({ cls := "StrataClient", name := "takeTimes", desc := "(LStrataClient$Server;)I" } : Jvm.MethodName)) ∈ lw_tbl := zt_in1 (i := 175) rfl
theorem tw_416 : (Jvm.Cond.code ({ cls := "StrataClient", name := "takeTimes", desc := "(LStrataClient$Server;)I" } : Jvm.MethodName) prog_1_method_24_code (14 : Nat) (Option.some Jvm.ClassFile.FieldType.int)) ∈ lw_tbl := zt_in1 (i := 176) rfl
theorem tw_417 : (Jvm.Cond.methodLink "StrataClient" (183 : Nat) ({ cls := "StrataClient", name := "halfOfSum", desc := "(JJ)J" } : Jvm.MethodName)) ∈ lw_tbl := zt_in1 (i := 177) rfl
theorem tw_418 : (Jvm.Cond.static ({ cls := "StrataClient", name := "halfOfSum", desc := "(JJ)J" } : Jvm.MethodName)) ∈ lw_tbl := zt_in1 (i := 178) rfl
theorem tw_419 : (Jvm.Cond.code ({ cls := "StrataClient", name := "halfOfSum", desc := "(JJ)J" } : Jvm.MethodName) prog_1_method_25_code (4 : Nat) (Option.some Jvm.ClassFile.FieldType.long)) ∈ lw_tbl := zt_in1 (i := 179) rfl
theorem tw_420 : (Jvm.Cond.constantLong "StrataClient" (186 : Nat) (4096 : Int64)) ∈ lw_tbl := zt_in1 (i := 180) rfl
theorem tw_421 : (Jvm.Cond.constantLong "StrataClient" (188 : Nat) (-1152921504606846976 : Int64)) ∈ lw_tbl := zt_in1 (i := 181) rfl
theorem tw_422 : (Jvm.Cond.constantLong "StrataClient" (190 : Nat) (1152921504606846976 : Int64)) ∈ lw_tbl := zt_in1 (i := 182) rfl
theorem tw_423 : (Jvm.Cond.methodLink "StrataClient" (192 : Nat) ({ cls := "StrataClient$Packet", name := "rootDelay", desc := "()J" } : Jvm.MethodName)) ∈ lw_tbl := zt_in1 (i := 183) rfl
theorem tw_424 : (Jvm.Cond.instanceMethod ({ cls := "StrataClient$Packet", name := "rootDelay", desc := "()J" } : Jvm.MethodName)) ∈ lw_tbl := zt_in1 (i := 184) rfl
theorem tw_425 : (Jvm.Cond.selects "StrataClient$Packet" ({ cls := "StrataClient$Packet", name := "rootDelay", desc := "()J" } : Jvm.MethodName) ({ cls := "StrataClient$Packet", name := "rootDelay", desc := "()J" } : Jvm.MethodName)) ∈ lw_tbl := zt_in1 (i := 185) rfl
theorem tw_426 : (Jvm.Cond.code ({ cls := "StrataClient$Packet", name := "rootDelay", desc := "()J" } : Jvm.MethodName) prog_2_method_7_code (1 : Nat) (Option.some Jvm.ClassFile.FieldType.long)) ∈ lw_tbl := zt_in1 (i := 186) rfl
theorem tw_427 : (Jvm.Cond.constantLong "StrataClient$Packet" (21 : Nat) (65536 : Int64)) ∈ lw_tbl := zt_in1 (i := 187) rfl
theorem tw_428 : (Jvm.Cond.methodLink "StrataClient" (195 : Nat) ({ cls := "StrataClient$Packet", name := "rootDispersion", desc := "()J" } : Jvm.MethodName)) ∈ lw_tbl := zt_in1 (i := 188) rfl
theorem tw_429 : (Jvm.Cond.instanceMethod ({ cls := "StrataClient$Packet", name := "rootDispersion", desc := "()J" } : Jvm.MethodName)) ∈ lw_tbl := zt_in1 (i := 189) rfl
theorem tw_430 : (Jvm.Cond.selects "StrataClient$Packet" ({ cls := "StrataClient$Packet", name := "rootDispersion", desc := "()J" } : Jvm.MethodName) ({ cls := "StrataClient$Packet", name := "rootDispersion", desc := "()J" } : Jvm.MethodName)) ∈ lw_tbl := zt_in1 (i := 190) rfl
theorem tw_431 : (Jvm.Cond.code ({ cls := "StrataClient$Packet", name := "rootDispersion", desc := "()J" } : Jvm.MethodName) prog_2_method_8_code (1 : Nat) (Option.some Jvm.ClassFile.FieldType.long)) ∈ lw_tbl := zt_in1 (i := 191) rfl
theorem tw_432 : (Jvm.Cond.methodLink "StrataClient" (198 : Nat) ({ cls := "StrataClient$Server", name := "keepRoot", desc := "(IJJ)V" } : Jvm.MethodName)) ∈ lw_tbl := zt_in1 (i := 192) rfl
theorem tw_433 : (Jvm.Cond.instanceMethod ({ cls := "StrataClient$Server", name := "keepRoot", desc := "(IJJ)V" } : Jvm.MethodName)) ∈ lw_tbl := zt_in1 (i := 193) rfl
theorem tw_434 : (Jvm.Cond.selects "StrataClient$Server" ({ cls := "StrataClient$Server", name := "keepRoot", desc := "(IJJ)V" } : Jvm.MethodName) ({ cls := "StrataClient$Server", name := "keepRoot", desc := "(IJJ)V" } : Jvm.MethodName)) ∈ lw_tbl := zt_in1 (i := 194) rfl
theorem tw_435 : (Jvm.Cond.code ({ cls := "StrataClient$Server", name := "keepRoot", desc := "(IJJ)V" } : Jvm.MethodName) prog_3_method_6_code (6 : Nat) (Option.none : Option Jvm.ClassFile.FieldType)) ∈ lw_tbl := zt_in1 (i := 195) rfl
theorem tw_436 : (Jvm.Cond.methodLink "StrataClient" (202 : Nat) ({ cls := "StrataClient$Server", name := "keepSample", desc := "(JJJ)V" } : Jvm.MethodName)) ∈ lw_tbl := zt_in1 (i := 196) rfl
theorem tw_437 : (Jvm.Cond.instanceMethod ({ cls := "StrataClient$Server", name := "keepSample", desc := "(JJJ)V" } : Jvm.MethodName)) ∈ lw_tbl := zt_in1 (i := 197) rfl
theorem tw_438 : (Jvm.Cond.selects "StrataClient$Server" ({ cls := "StrataClient$Server", name := "keepSample", desc := "(JJJ)V" } : Jvm.MethodName) ({ cls := "StrataClient$Server", name := "keepSample", desc := "(JJJ)V" } : Jvm.MethodName)) ∈ lw_tbl := zt_in1 (i := 198) rfl
theorem tw_439 : (Jvm.Cond.code ({ cls := "StrataClient$Server", name := "keepSample", desc := "(JJJ)V" } : Jvm.MethodName) prog_3_method_7_code (8 : Nat) (Option.none : Option Jvm.ClassFile.FieldType)) ∈ lw_tbl := zt_in1 (i := 199) rfl
theorem tw_440 : (Jvm.Cond.methodLink "StrataClientLaw" (112 : Nat) ({ cls := "StrataClientLaw", name := "reach", desc := "(LStrataClient;I[J)I" } : Jvm.MethodName)) ∈ lw_tbl := zt_in1 (i := 200) rfl
theorem tw_441 : (Jvm.Cond.static ({ cls := "StrataClientLaw", name := "reach", desc := "(LStrataClient;I[J)I" } : Jvm.MethodName)) ∈ lw_tbl := zt_in1 (i := 201) rfl
theorem tw_442 : (Jvm.Cond.codeWith ({ cls := "StrataClientLaw", name := "reach", desc := "(LStrataClient;I[J)I" } : Jvm.MethodName) method_8_code (4 : Nat) (Option.some Jvm.ClassFile.FieldType.int) [((0 : Nat), (9 : Nat), (12 : Nat), (19 : Nat))]) ∈ lw_tbl := zt_in1 (i := 202) rfl
theorem tw_443 : (Jvm.Cond.methodLink "StrataClientLaw" (35 : Nat) ({ cls := "StrataClient", name := "reach", desc := "(I)I" } : Jvm.MethodName)) ∈ lw_tbl := zt_in1 (i := 203) rfl
theorem tw_444 : (Jvm.Cond.instanceMethod ({ cls := "StrataClient", name := "reach", desc := "(I)I" } : Jvm.MethodName)) ∈ lw_tbl := zt_in1 (i := 204) rfl
theorem tw_445 : (Jvm.Cond.selects "StrataClient" ({ cls := "StrataClient", name := "reach", desc := "(I)I" } : Jvm.MethodName) ({ cls := "StrataClient", name := "reach", desc := "(I)I" } : Jvm.MethodName)) ∈ lw_tbl := zt_in1 (i := 205) rfl
theorem tw_446 : (Jvm.Cond.code ({ cls := "StrataClient", name := "reach", desc := "(I)I" } : Jvm.MethodName) prog_1_method_9_code (3 : Nat) (Option.some Jvm.ClassFile.FieldType.int)) ∈ lw_tbl := zt_in1 (i := 206) rfl
theorem tw_447 : (Jvm.Cond.methodLink "StrataClientLaw" (115 : Nat) ({ cls := "StrataClientLaw", name := "poll", desc := "(LStrataClient;I[J)I" } : Jvm.MethodName)) ∈ lw_tbl := zt_in1 (i := 207) rfl
theorem tw_448 : (Jvm.Cond.static ({ cls := "StrataClientLaw", name := "poll", desc := "(LStrataClient;I[J)I" } : Jvm.MethodName)) ∈ lw_tbl := zt_in1 (i := 208) rfl
theorem tw_449 : (Jvm.Cond.codeWith ({ cls := "StrataClientLaw", name := "poll", desc := "(LStrataClient;I[J)I" } : Jvm.MethodName) method_9_code (4 : Nat) (Option.some Jvm.ClassFile.FieldType.int) [((0 : Nat), (9 : Nat), (12 : Nat), (19 : Nat))]) ∈ lw_tbl := zt_in1 (i := 209) rfl
theorem tw_450 : (Jvm.Cond.methodLink "StrataClientLaw" (38 : Nat) ({ cls := "StrataClient", name := "poll", desc := "(I)I" } : Jvm.MethodName)) ∈ lw_tbl := zt_in1 (i := 210) rfl
theorem tw_451 : (Jvm.Cond.instanceMethod ({ cls := "StrataClient", name := "poll", desc := "(I)I" } : Jvm.MethodName)) ∈ lw_tbl := zt_in1 (i := 211) rfl
theorem tw_452 : (Jvm.Cond.selects "StrataClient" ({ cls := "StrataClient", name := "poll", desc := "(I)I" } : Jvm.MethodName) ({ cls := "StrataClient", name := "poll", desc := "(I)I" } : Jvm.MethodName)) ∈ lw_tbl := zt_in1 (i := 212) rfl
theorem tw_453 : (Jvm.Cond.code ({ cls := "StrataClient", name := "poll", desc := "(I)I" } : Jvm.MethodName) prog_1_method_10_code (2 : Nat) (Option.some Jvm.ClassFile.FieldType.int)) ∈ lw_tbl := zt_in1 (i := 213) rfl
theorem tw_454 : (Jvm.Cond.methodLink "StrataClientLaw" (118 : Nat) ({ cls := "StrataClientLaw", name := "samples", desc := "(LStrataClient;I[J)I" } : Jvm.MethodName)) ∈ lw_tbl := zt_in1 (i := 214) rfl
theorem tw_455 : (Jvm.Cond.static ({ cls := "StrataClientLaw", name := "samples", desc := "(LStrataClient;I[J)I" } : Jvm.MethodName)) ∈ lw_tbl := zt_in1 (i := 215) rfl
theorem tw_456 : (Jvm.Cond.codeWith ({ cls := "StrataClientLaw", name := "samples", desc := "(LStrataClient;I[J)I" } : Jvm.MethodName) method_10_code (4 : Nat) (Option.some Jvm.ClassFile.FieldType.int) [((0 : Nat), (9 : Nat), (12 : Nat), (19 : Nat))]) ∈ lw_tbl := zt_in1 (i := 216) rfl
theorem tw_457 : (Jvm.Cond.methodLink "StrataClientLaw" (41 : Nat) ({ cls := "StrataClient", name := "samples", desc := "(I)I" } : Jvm.MethodName)) ∈ lw_tbl := zt_in1 (i := 217) rfl
theorem tw_458 : (Jvm.Cond.instanceMethod ({ cls := "StrataClient", name := "samples", desc := "(I)I" } : Jvm.MethodName)) ∈ lw_tbl := zt_in1 (i := 218) rfl
theorem tw_459 : (Jvm.Cond.selects "StrataClient" ({ cls := "StrataClient", name := "samples", desc := "(I)I" } : Jvm.MethodName) ({ cls := "StrataClient", name := "samples", desc := "(I)I" } : Jvm.MethodName)) ∈ lw_tbl := zt_in1 (i := 219) rfl
theorem tw_460 : (Jvm.Cond.code ({ cls := "StrataClient", name := "samples", desc := "(I)I" } : Jvm.MethodName) prog_1_method_11_code (2 : Nat) (Option.some Jvm.ClassFile.FieldType.int)) ∈ lw_tbl := zt_in1 (i := 220) rfl
theorem tw_461 : (Jvm.Cond.methodLink "StrataClientLaw" (121 : Nat) ({ cls := "StrataClientLaw", name := "offset", desc := "(LStrataClient;I[J)I" } : Jvm.MethodName)) ∈ lw_tbl := zt_in1 (i := 221) rfl
theorem tw_462 : (Jvm.Cond.static ({ cls := "StrataClientLaw", name := "offset", desc := "(LStrataClient;I[J)I" } : Jvm.MethodName)) ∈ lw_tbl := zt_in1 (i := 222) rfl
theorem tw_463 : (Jvm.Cond.codeWith ({ cls := "StrataClientLaw", name := "offset", desc := "(LStrataClient;I[J)I" } : Jvm.MethodName) method_11_code (4 : Nat) (Option.some Jvm.ClassFile.FieldType.int) [((0 : Nat), (8 : Nat), (11 : Nat), (19 : Nat)), ((0 : Nat), (8 : Nat), (14 : Nat), (47 : Nat))]) ∈ lw_tbl := zt_in1 (i := 223) rfl
theorem tw_464 : (Jvm.Cond.classLink "StrataClientLaw" (47 : Nat) "java/util/NoSuchElementException") ∈ lw_tbl := zt_in1 (i := 224) rfl
theorem tw_465 : (Jvm.Cond.methodLink "StrataClientLaw" (44 : Nat) ({ cls := "StrataClient", name := "offset", desc := "(I)J" } : Jvm.MethodName)) ∈ lw_tbl := zt_in1 (i := 225) rfl
theorem tw_466 : (Jvm.Cond.instanceMethod ({ cls := "StrataClient", name := "offset", desc := "(I)J" } : Jvm.MethodName)) ∈ lw_tbl := zt_in1 (i := 226) rfl
theorem tw_467 : (Jvm.Cond.selects "StrataClient" ({ cls := "StrataClient", name := "offset", desc := "(I)J" } : Jvm.MethodName) ({ cls := "StrataClient", name := "offset", desc := "(I)J" } : Jvm.MethodName)) ∈ lw_tbl := zt_in1 (i := 227) rfl
theorem tw_468 : (Jvm.Cond.code ({ cls := "StrataClient", name := "offset", desc := "(I)J" } : Jvm.MethodName) prog_1_method_12_code (2 : Nat) (Option.some Jvm.ClassFile.FieldType.long)) ∈ lw_tbl := zt_in1 (i := 228) rfl
theorem tw_469 : (Jvm.Cond.methodLink "StrataClient" (118 : Nat) ({ cls := "StrataClient", name := "sampledAt", desc := "(I)LStrataClient$Server;" } : Jvm.MethodName)) ∈ lw_tbl := zt_in1 (i := 229) rfl
theorem tw_470 : (Jvm.Cond.privateMethod ({ cls := "StrataClient", name := "sampledAt", desc := "(I)LStrataClient$Server;" } : Jvm.MethodName)) ∈ lw_tbl := zt_in1 (i := 230) rfl
theorem tw_471 : (Jvm.Cond.instanceMethod ({ cls := "StrataClient", name := "sampledAt", desc := "(I)LStrataClient$Server;" } : Jvm.MethodName)) ∈ lw_tbl := zt_in1 (i := 231) rfl
theorem tw_472 : (Jvm.Cond.code ({ cls := "StrataClient", name := "sampledAt", desc := "(I)LStrataClient$Server;" } : Jvm.MethodName) prog_1_method_23_code (3 : Nat) (Option.some (Jvm.ClassFile.FieldType.object "StrataClient$Server"))) ∈ lw_tbl := zt_in1 (i := 232) rfl
theorem tw_473 : (Jvm.Cond.classLink "StrataClient" (144 : Nat) "java/util/NoSuchElementException") ∈ lw_tbl := zt_in1 (i := 233) rfl
theorem tw_474 : (Jvm.Cond.instantiable "java/util/NoSuchElementException" (6 : Nat)) ∈ lw_tbl := zt_in1 (i := 234) rfl
theorem tw_475 : (Jvm.Cond.castable "java/util/NoSuchElementException" "java/util/NoSuchElementException") ∈ lw_tbl := zt_in1 (i := 235) rfl
theorem tw_476 : (Jvm.Cond.selects "java/util/NoSuchElementException" ({ cls := "java/lang/Throwable", name := "fillInStackTrace", desc := "(I)Ljava/lang/Throwable;" } : Jvm.MethodName) ({ cls := "java/lang/Throwable", name := "fillInStackTrace", desc := "(I)Ljava/lang/Throwable;" } : Jvm.MethodName)) ∈ lw_tbl := zt_in1 (i := 236) rfl
theorem tw_477 : (Jvm.Cond.lays "java/util/NoSuchElementException" "java/lang/Throwable" "cause" "Ljava/lang/Throwable;") ∈ lw_tbl := zt_in1 (i := 237) rfl
theorem tw_478 : (Jvm.Cond.lays "java/util/NoSuchElementException" "java/lang/Throwable" "stackTrace" "[Ljava/lang/StackTraceElement;") ∈ lw_tbl := zt_in1 (i := 238) rfl
theorem tw_479 : (Jvm.Cond.lays "java/util/NoSuchElementException" "java/lang/Throwable" "suppressedExceptions" "Ljava/util/List;") ∈ lw_tbl := zt_in1 (i := 239) rfl
theorem tw_480 : (Jvm.Cond.lays "java/util/NoSuchElementException" "java/lang/Throwable" "detailMessage" "Ljava/lang/String;") ∈ lw_tbl := zt_in2 (i := 0) rfl
theorem tw_481 : (Jvm.Cond.lays "java/util/NoSuchElementException" "java/lang/Throwable" "backtrace" "Ljava/lang/Object;") ∈ lw_tbl := zt_in2 (i := 1) rfl
theorem tw_482 : (Jvm.Cond.methodLink "StrataClient" (146 : Nat) ({ cls := "java/util/NoSuchElementException", name := "<init>", desc := "()V" } : Jvm.MethodName)) ∈ lw_tbl := zt_in2 (i := 2) rfl
theorem tw_483 : (Jvm.Cond.instanceMethod ({ cls := "java/util/NoSuchElementException", name := "<init>", desc := "()V" } : Jvm.MethodName)) ∈ lw_tbl := zt_in2 (i := 3) rfl
theorem tw_484 : (Jvm.Cond.code ({ cls := "java/util/NoSuchElementException", name := "<init>", desc := "()V" } : Jvm.MethodName) prog_16_method_1_code (1 : Nat) (Option.none : Option Jvm.ClassFile.FieldType)) ∈ lw_tbl := zt_in2 (i := 4) rfl
theorem tw_485 : (Jvm.Cond.methodLink "java/util/NoSuchElementException" (1 : Nat) ({ cls := "java/lang/RuntimeException", name := "<init>", desc := "()V" } : Jvm.MethodName)) ∈ lw_tbl := zt_in2 (i := 5) rfl
theorem tw_486 : (Jvm.Cond.lays "java/util/NoSuchElementException" "java/lang/Throwable" "depth" "I") ∈ lw_tbl := zt_in2 (i := 6) rfl
theorem tw_487 : (Jvm.Cond.superclass "java/util/NoSuchElementException" "java/lang/RuntimeException") ∈ lw_tbl := zt_in2 (i := 7) rfl
theorem tw_488 : (Jvm.Cond.methodLink "StrataClient" (121 : Nat) ({ cls := "StrataClient$Server", name := "bestOffset", desc := "(J)J" } : Jvm.MethodName)) ∈ lw_tbl := zt_in2 (i := 8) rfl
theorem tw_489 : (Jvm.Cond.methodLink "StrataClientLaw" (124 : Nat) ({ cls := "StrataClientLaw", name := "delay", desc := "(LStrataClient;I[J)I" } : Jvm.MethodName)) ∈ lw_tbl := zt_in2 (i := 9) rfl
theorem tw_490 : (Jvm.Cond.static ({ cls := "StrataClientLaw", name := "delay", desc := "(LStrataClient;I[J)I" } : Jvm.MethodName)) ∈ lw_tbl := zt_in2 (i := 10) rfl
theorem tw_491 : (Jvm.Cond.codeWith ({ cls := "StrataClientLaw", name := "delay", desc := "(LStrataClient;I[J)I" } : Jvm.MethodName) method_12_code (4 : Nat) (Option.some Jvm.ClassFile.FieldType.int) [((0 : Nat), (8 : Nat), (11 : Nat), (19 : Nat)), ((0 : Nat), (8 : Nat), (14 : Nat), (47 : Nat))]) ∈ lw_tbl := zt_in2 (i := 11) rfl
theorem tw_492 : (Jvm.Cond.methodLink "StrataClientLaw" (49 : Nat) ({ cls := "StrataClient", name := "delay", desc := "(I)J" } : Jvm.MethodName)) ∈ lw_tbl := zt_in2 (i := 12) rfl
theorem tw_493 : (Jvm.Cond.instanceMethod ({ cls := "StrataClient", name := "delay", desc := "(I)J" } : Jvm.MethodName)) ∈ lw_tbl := zt_in2 (i := 13) rfl
theorem tw_494 : (Jvm.Cond.selects "StrataClient" ({ cls := "StrataClient", name := "delay", desc := "(I)J" } : Jvm.MethodName) ({ cls := "StrataClient", name := "delay", desc := "(I)J" } : Jvm.MethodName)) ∈ lw_tbl := zt_in2 (i := 14) rfl
theorem tw_495 : (Jvm.Cond.code ({ cls := "StrataClient", name := "delay", desc := "(I)J" } : Jvm.MethodName) prog_1_method_13_code (2 : Nat) (Option.some Jvm.ClassFile.FieldType.long)) ∈ lw_tbl := zt_in2 (i := 15) rfl
theorem tw_496 : (Jvm.Cond.methodLink "StrataClient" (125 : Nat) ({ cls := "StrataClient$Server", name := "bestDelay", desc := "(J)J" } : Jvm.MethodName)) ∈ lw_tbl := zt_in2 (i := 16) rfl
theorem tw_497 : (Jvm.Cond.instanceMethod ({ cls := "StrataClient$Server", name := "bestDelay", desc := "(J)J" } : Jvm.MethodName)) ∈ lw_tbl := zt_in2 (i := 17) rfl
theorem tw_498 : (Jvm.Cond.selects "StrataClient$Server" ({ cls := "StrataClient$Server", name := "bestDelay", desc := "(J)J" } : Jvm.MethodName) ({ cls := "StrataClient$Server", name := "bestDelay", desc := "(J)J" } : Jvm.MethodName)) ∈ lw_tbl := zt_in2 (i := 18) rfl
theorem tw_499 : (Jvm.Cond.code ({ cls := "StrataClient$Server", name := "bestDelay", desc := "(J)J" } : Jvm.MethodName) prog_3_method_10_code (3 : Nat) (Option.some Jvm.ClassFile.FieldType.long)) ∈ lw_tbl := zt_in2 (i := 19) rfl
theorem tw_500 : (Jvm.Cond.methodLink "StrataClientLaw" (127 : Nat) ({ cls := "StrataClientLaw", name := "jitter", desc := "(LStrataClient;I[J)I" } : Jvm.MethodName)) ∈ lw_tbl := zt_in2 (i := 20) rfl
theorem tw_501 : (Jvm.Cond.static ({ cls := "StrataClientLaw", name := "jitter", desc := "(LStrataClient;I[J)I" } : Jvm.MethodName)) ∈ lw_tbl := zt_in2 (i := 21) rfl
theorem tw_502 : (Jvm.Cond.codeWith ({ cls := "StrataClientLaw", name := "jitter", desc := "(LStrataClient;I[J)I" } : Jvm.MethodName) method_13_code (4 : Nat) (Option.some Jvm.ClassFile.FieldType.int) [((0 : Nat), (8 : Nat), (11 : Nat), (19 : Nat)), ((0 : Nat), (8 : Nat), (14 : Nat), (47 : Nat))]) ∈ lw_tbl := zt_in2 (i := 22) rfl
theorem tw_503 : (Jvm.Cond.methodLink "StrataClientLaw" (52 : Nat) ({ cls := "StrataClient", name := "jitter", desc := "(I)J" } : Jvm.MethodName)) ∈ lw_tbl := zt_in2 (i := 23) rfl
theorem tw_504 : (Jvm.Cond.instanceMethod ({ cls := "StrataClient", name := "jitter", desc := "(I)J" } : Jvm.MethodName)) ∈ lw_tbl := zt_in2 (i := 24) rfl
theorem tw_505 : (Jvm.Cond.selects "StrataClient" ({ cls := "StrataClient", name := "jitter", desc := "(I)J" } : Jvm.MethodName) ({ cls := "StrataClient", name := "jitter", desc := "(I)J" } : Jvm.MethodName)) ∈ lw_tbl := zt_in2 (i := 25) rfl
theorem tw_506 : (Jvm.Cond.code ({ cls := "StrataClient", name := "jitter", desc := "(I)J" } : Jvm.MethodName) prog_1_method_14_code (2 : Nat) (Option.some Jvm.ClassFile.FieldType.long)) ∈ lw_tbl := zt_in2 (i := 26) rfl
theorem tw_507 : (Jvm.Cond.methodLink "StrataClient" (128 : Nat) ({ cls := "StrataClient$Server", name := "jitterAt", desc := "(J)J" } : Jvm.MethodName)) ∈ lw_tbl := zt_in2 (i := 27) rfl
theorem tw_508 : (Jvm.Cond.instanceMethod ({ cls := "StrataClient$Server", name := "jitterAt", desc := "(J)J" } : Jvm.MethodName)) ∈ lw_tbl := zt_in2 (i := 28) rfl
theorem tw_509 : (Jvm.Cond.selects "StrataClient$Server" ({ cls := "StrataClient$Server", name := "jitterAt", desc := "(J)J" } : Jvm.MethodName) ({ cls := "StrataClient$Server", name := "jitterAt", desc := "(J)J" } : Jvm.MethodName)) ∈ lw_tbl := zt_in2 (i := 29) rfl
theorem tw_510 : (Jvm.Cond.code ({ cls := "StrataClient$Server", name := "jitterAt", desc := "(J)J" } : Jvm.MethodName) prog_3_method_11_code (3 : Nat) (Option.some Jvm.ClassFile.FieldType.long)) ∈ lw_tbl := zt_in2 (i := 30) rfl
theorem tw_511 : (Jvm.Cond.methodLink "StrataClientLaw" (130 : Nat) ({ cls := "StrataClientLaw", name := "distance", desc := "(LStrataClient;I[J)I" } : Jvm.MethodName)) ∈ lw_tbl := zt_in2 (i := 31) rfl
theorem tw_512 : (Jvm.Cond.static ({ cls := "StrataClientLaw", name := "distance", desc := "(LStrataClient;I[J)I" } : Jvm.MethodName)) ∈ lw_tbl := zt_in2 (i := 32) rfl
theorem tw_513 : (Jvm.Cond.codeWith ({ cls := "StrataClientLaw", name := "distance", desc := "(LStrataClient;I[J)I" } : Jvm.MethodName) method_14_code (4 : Nat) (Option.some Jvm.ClassFile.FieldType.int) [((0 : Nat), (8 : Nat), (11 : Nat), (19 : Nat)), ((0 : Nat), (8 : Nat), (14 : Nat), (47 : Nat))]) ∈ lw_tbl := zt_in2 (i := 33) rfl
theorem tw_514 : (Jvm.Cond.methodLink "StrataClientLaw" (55 : Nat) ({ cls := "StrataClient", name := "distance", desc := "(I)J" } : Jvm.MethodName)) ∈ lw_tbl := zt_in2 (i := 34) rfl
theorem tw_515 : (Jvm.Cond.instanceMethod ({ cls := "StrataClient", name := "distance", desc := "(I)J" } : Jvm.MethodName)) ∈ lw_tbl := zt_in2 (i := 35) rfl
theorem tw_516 : (Jvm.Cond.selects "StrataClient" ({ cls := "StrataClient", name := "distance", desc := "(I)J" } : Jvm.MethodName) ({ cls := "StrataClient", name := "distance", desc := "(I)J" } : Jvm.MethodName)) ∈ lw_tbl := zt_in2 (i := 36) rfl
theorem tw_517 : (Jvm.Cond.code ({ cls := "StrataClient", name := "distance", desc := "(I)J" } : Jvm.MethodName) prog_1_method_15_code (2 : Nat) (Option.some Jvm.ClassFile.FieldType.long)) ∈ lw_tbl := zt_in2 (i := 37) rfl
theorem tw_518 : (Jvm.Cond.methodLink "StrataClient" (131 : Nat) ({ cls := "StrataClient$Server", name := "rootDistance", desc := "(J)J" } : Jvm.MethodName)) ∈ lw_tbl := zt_in2 (i := 38) rfl
theorem tw_519 : (Jvm.Cond.methodLink "StrataClientLaw" (137 : Nat) ({ cls := "StrataClientLaw", name := "low", desc := "(LStrataClient;[J)I" } : Jvm.MethodName)) ∈ lw_tbl := zt_in2 (i := 39) rfl
theorem tw_520 : (Jvm.Cond.static ({ cls := "StrataClientLaw", name := "low", desc := "(LStrataClient;[J)I" } : Jvm.MethodName)) ∈ lw_tbl := zt_in2 (i := 40) rfl
theorem tw_521 : (Jvm.Cond.codeWith ({ cls := "StrataClientLaw", name := "low", desc := "(LStrataClient;[J)I" } : Jvm.MethodName) method_15_code (3 : Nat) (Option.some Jvm.ClassFile.FieldType.int) [((0 : Nat), (7 : Nat), (10 : Nat), (47 : Nat))]) ∈ lw_tbl := zt_in2 (i := 41) rfl
theorem tw_522 : (Jvm.Cond.methodLink "StrataClientLaw" (58 : Nat) ({ cls := "StrataClient", name := "low", desc := "()J" } : Jvm.MethodName)) ∈ lw_tbl := zt_in2 (i := 42) rfl
theorem tw_523 : (Jvm.Cond.instanceMethod ({ cls := "StrataClient", name := "low", desc := "()J" } : Jvm.MethodName)) ∈ lw_tbl := zt_in2 (i := 43) rfl
theorem tw_524 : (Jvm.Cond.selects "StrataClient" ({ cls := "StrataClient", name := "low", desc := "()J" } : Jvm.MethodName) ({ cls := "StrataClient", name := "low", desc := "()J" } : Jvm.MethodName)) ∈ lw_tbl := zt_in2 (i := 44) rfl
theorem tw_525 : (Jvm.Cond.code ({ cls := "StrataClient", name := "low", desc := "()J" } : Jvm.MethodName) prog_1_method_17_code (1 : Nat) (Option.some Jvm.ClassFile.FieldType.long)) ∈ lw_tbl := zt_in2 (i := 45) rfl
theorem tw_526 : (Jvm.Cond.methodLink "StrataClient" (141 : Nat) ({ cls := "StrataClient$Vote", name := "hasMajority", desc := "()Z" } : Jvm.MethodName)) ∈ lw_tbl := zt_in2 (i := 46) rfl
theorem tw_527 : (Jvm.Cond.instanceMethod ({ cls := "StrataClient$Vote", name := "hasMajority", desc := "()Z" } : Jvm.MethodName)) ∈ lw_tbl := zt_in2 (i := 47) rfl
theorem tw_528 : (Jvm.Cond.selects "StrataClient$Vote" ({ cls := "StrataClient$Vote", name := "hasMajority", desc := "()Z" } : Jvm.MethodName) ({ cls := "StrataClient$Vote", name := "hasMajority", desc := "()Z" } : Jvm.MethodName)) ∈ lw_tbl := zt_in2 (i := 48) rfl
theorem tw_529 : (Jvm.Cond.code ({ cls := "StrataClient$Vote", name := "hasMajority", desc := "()Z" } : Jvm.MethodName) prog_4_method_4_code (1 : Nat) (Option.some Jvm.ClassFile.FieldType.boolean)) ∈ lw_tbl := zt_in2 (i := 49) rfl
theorem tw_530 : (Jvm.Cond.methodLink "StrataClientLaw" (141 : Nat) ({ cls := "StrataClientLaw", name := "high", desc := "(LStrataClient;[J)I" } : Jvm.MethodName)) ∈ lw_tbl := zt_in2 (i := 50) rfl
theorem tw_531 : (Jvm.Cond.static ({ cls := "StrataClientLaw", name := "high", desc := "(LStrataClient;[J)I" } : Jvm.MethodName)) ∈ lw_tbl := zt_in2 (i := 51) rfl
theorem tw_532 : (Jvm.Cond.codeWith ({ cls := "StrataClientLaw", name := "high", desc := "(LStrataClient;[J)I" } : Jvm.MethodName) method_16_code (3 : Nat) (Option.some Jvm.ClassFile.FieldType.int) [((0 : Nat), (7 : Nat), (10 : Nat), (47 : Nat))]) ∈ lw_tbl := zt_in2 (i := 52) rfl
theorem tw_533 : (Jvm.Cond.methodLink "StrataClientLaw" (62 : Nat) ({ cls := "StrataClient", name := "high", desc := "()J" } : Jvm.MethodName)) ∈ lw_tbl := zt_in2 (i := 53) rfl
theorem tw_534 : (Jvm.Cond.instanceMethod ({ cls := "StrataClient", name := "high", desc := "()J" } : Jvm.MethodName)) ∈ lw_tbl := zt_in2 (i := 54) rfl
theorem tw_535 : (Jvm.Cond.selects "StrataClient" ({ cls := "StrataClient", name := "high", desc := "()J" } : Jvm.MethodName) ({ cls := "StrataClient", name := "high", desc := "()J" } : Jvm.MethodName)) ∈ lw_tbl := zt_in2 (i := 55) rfl
theorem tw_536 : (Jvm.Cond.code ({ cls := "StrataClient", name := "high", desc := "()J" } : Jvm.MethodName) prog_1_method_18_code (1 : Nat) (Option.some Jvm.ClassFile.FieldType.long)) ∈ lw_tbl := zt_in2 (i := 56) rfl
theorem tw_537 : (Jvm.Cond.methodLink "StrataClientLaw" (148 : Nat) ({ cls := "StrataClientLaw", name := "peer", desc := "(LStrataClient;[J)I" } : Jvm.MethodName)) ∈ lw_tbl := zt_in2 (i := 57) rfl
theorem tw_538 : (Jvm.Cond.static ({ cls := "StrataClientLaw", name := "peer", desc := "(LStrataClient;[J)I" } : Jvm.MethodName)) ∈ lw_tbl := zt_in2 (i := 58) rfl
theorem tw_539 : (Jvm.Cond.codeWith ({ cls := "StrataClientLaw", name := "peer", desc := "(LStrataClient;[J)I" } : Jvm.MethodName) method_17_code (3 : Nat) (Option.some Jvm.ClassFile.FieldType.int) [((0 : Nat), (8 : Nat), (11 : Nat), (47 : Nat))]) ∈ lw_tbl := zt_in2 (i := 59) rfl
theorem tw_540 : (Jvm.Cond.methodLink "StrataClientLaw" (65 : Nat) ({ cls := "StrataClient", name := "peer", desc := "()I" } : Jvm.MethodName)) ∈ lw_tbl := zt_in2 (i := 60) rfl
theorem tw_541 : (Jvm.Cond.instanceMethod ({ cls := "StrataClient", name := "peer", desc := "()I" } : Jvm.MethodName)) ∈ lw_tbl := zt_in2 (i := 61) rfl
theorem tw_542 : (Jvm.Cond.selects "StrataClient" ({ cls := "StrataClient", name := "peer", desc := "()I" } : Jvm.MethodName) ({ cls := "StrataClient", name := "peer", desc := "()I" } : Jvm.MethodName)) ∈ lw_tbl := zt_in2 (i := 62) rfl
theorem tw_543 : (Jvm.Cond.code ({ cls := "StrataClient", name := "peer", desc := "()I" } : Jvm.MethodName) prog_1_method_20_code (1 : Nat) (Option.some Jvm.ClassFile.FieldType.int)) ∈ lw_tbl := zt_in2 (i := 63) rfl
theorem tw_544 : (Jvm.Cond.methodLink "StrataClient" (156 : Nat) ({ cls := "StrataClient$Vote", name := "agrees", desc := "()Z" } : Jvm.MethodName)) ∈ lw_tbl := zt_in2 (i := 64) rfl
theorem tw_545 : (Jvm.Cond.instanceMethod ({ cls := "StrataClient$Vote", name := "agrees", desc := "()Z" } : Jvm.MethodName)) ∈ lw_tbl := zt_in2 (i := 65) rfl
theorem tw_546 : (Jvm.Cond.selects "StrataClient$Vote" ({ cls := "StrataClient$Vote", name := "agrees", desc := "()Z" } : Jvm.MethodName) ({ cls := "StrataClient$Vote", name := "agrees", desc := "()Z" } : Jvm.MethodName)) ∈ lw_tbl := zt_in2 (i := 66) rfl
theorem tw_547 : (Jvm.Cond.code ({ cls := "StrataClient$Vote", name := "agrees", desc := "()Z" } : Jvm.MethodName) prog_4_method_5_code (1 : Nat) (Option.some Jvm.ClassFile.FieldType.boolean)) ∈ lw_tbl := zt_in2 (i := 67) rfl
theorem tw_548 : (Jvm.Cond.methodLink "StrataClient$Vote" (46 : Nat) ({ cls := "StrataClient$Vote", name := "hasMajority", desc := "()Z" } : Jvm.MethodName)) ∈ lw_tbl := zt_in2 (i := 68) rfl
theorem tw_549 : (Jvm.Cond.methodLink "StrataClient" (159 : Nat) ({ cls := "StrataClient$Vote", name := "choosePeer", desc := "([LStrataClient$Server;)I" } : Jvm.MethodName)) ∈ lw_tbl := zt_in2 (i := 69) rfl
theorem tw_550 : (Jvm.Cond.instanceMethod ({ cls := "StrataClient$Vote", name := "choosePeer", desc := "([LStrataClient$Server;)I" } : Jvm.MethodName)) ∈ lw_tbl := zt_in2 (i := 70) rfl
theorem tw_551 : (Jvm.Cond.selects "StrataClient$Vote" ({ cls := "StrataClient$Vote", name := "choosePeer", desc := "([LStrataClient$Server;)I" } : Jvm.MethodName) ({ cls := "StrataClient$Vote", name := "choosePeer", desc := "([LStrataClient$Server;)I" } : Jvm.MethodName)) ∈ lw_tbl := zt_in2 (i := 71) rfl
theorem tw_552 : (Jvm.Cond.code ({ cls := "StrataClient$Vote", name := "choosePeer", desc := "([LStrataClient$Server;)I" } : Jvm.MethodName) prog_4_method_6_code (4 : Nat) (Option.some Jvm.ClassFile.FieldType.int)) ∈ lw_tbl := zt_in2 (i := 72) rfl
theorem tw_553 : (Jvm.Cond.methodLink "StrataClient$Vote" (54 : Nat) ({ cls := "StrataClient$Vote", name := "isBetter", desc := "([LStrataClient$Server;II)Z" } : Jvm.MethodName)) ∈ lw_tbl := zt_in2 (i := 73) rfl
theorem tw_554 : (Jvm.Cond.privateMethod ({ cls := "StrataClient$Vote", name := "isBetter", desc := "([LStrataClient$Server;II)Z" } : Jvm.MethodName)) ∈ lw_tbl := zt_in2 (i := 74) rfl
theorem tw_555 : (Jvm.Cond.instanceMethod ({ cls := "StrataClient$Vote", name := "isBetter", desc := "([LStrataClient$Server;II)Z" } : Jvm.MethodName)) ∈ lw_tbl := zt_in2 (i := 75) rfl
theorem tw_556 : (Jvm.Cond.code ({ cls := "StrataClient$Vote", name := "isBetter", desc := "([LStrataClient$Server;II)Z" } : Jvm.MethodName) prog_4_method_14_code (6 : Nat) (Option.some Jvm.ClassFile.FieldType.boolean)) ∈ lw_tbl := zt_in2 (i := 76) rfl
theorem tw_557 : (Jvm.Cond.methodLink "StrataClient$Vote" (58 : Nat) ({ cls := "java/lang/Math", name := "max", desc := "(II)I" } : Jvm.MethodName)) ∈ lw_tbl := zt_in2 (i := 77) rfl
theorem tw_558 : (Jvm.Cond.static ({ cls := "java/lang/Math", name := "max", desc := "(II)I" } : Jvm.MethodName)) ∈ lw_tbl := zt_in2 (i := 78) rfl
theorem tw_559 : (Jvm.Cond.code ({ cls := "java/lang/Math", name := "max", desc := "(II)I" } : Jvm.MethodName) prog_12_method_65_code (2 : Nat) (Option.some Jvm.ClassFile.FieldType.int)) ∈ lw_tbl := zt_in2 (i := 79) rfl
theorem tw_560 : (Jvm.Cond.methodLink "StrataClientLaw" (151 : Nat) ({ cls := "StrataClientLaw", name := "update", desc := "(LStrataClient;[J)I" } : Jvm.MethodName)) ∈ lw_tbl := zt_in2 (i := 80) rfl
theorem tw_561 : (Jvm.Cond.static ({ cls := "StrataClientLaw", name := "update", desc := "(LStrataClient;[J)I" } : Jvm.MethodName)) ∈ lw_tbl := zt_in2 (i := 81) rfl
theorem tw_562 : (Jvm.Cond.codeWith ({ cls := "StrataClientLaw", name := "update", desc := "(LStrataClient;[J)I" } : Jvm.MethodName) method_18_code (3 : Nat) (Option.some Jvm.ClassFile.FieldType.int) [((0 : Nat), (8 : Nat), (11 : Nat), (25 : Nat)), ((0 : Nat), (8 : Nat), (14 : Nat), (72 : Nat))]) ∈ lw_tbl := zt_in2 (i := 82) rfl
theorem tw_563 : (Jvm.Cond.classLink "StrataClientLaw" (72 : Nat) "java/lang/UnsupportedOperationException") ∈ lw_tbl := zt_in2 (i := 83) rfl
theorem tw_564 : (Jvm.Cond.methodLink "StrataClientLaw" (69 : Nat) ({ cls := "StrataClient", name := "update", desc := "()I" } : Jvm.MethodName)) ∈ lw_tbl := zt_in2 (i := 84) rfl
theorem tw_565 : (Jvm.Cond.instanceMethod ({ cls := "StrataClient", name := "update", desc := "()I" } : Jvm.MethodName)) ∈ lw_tbl := zt_in2 (i := 85) rfl
theorem tw_566 : (Jvm.Cond.selects "StrataClient" ({ cls := "StrataClient", name := "update", desc := "()I" } : Jvm.MethodName) ({ cls := "StrataClient", name := "update", desc := "()I" } : Jvm.MethodName)) ∈ lw_tbl := zt_in2 (i := 86) rfl
theorem tw_567 : (Jvm.Cond.code ({ cls := "StrataClient", name := "update", desc := "()I" } : Jvm.MethodName) prog_1_method_21_code (5 : Nat) (Option.some Jvm.ClassFile.FieldType.int)) ∈ lw_tbl := zt_in2 (i := 87) rfl
theorem tw_568 : (Jvm.Cond.methodLink "StrataClient" (163 : Nat) ({ cls := "StrataClient$Vote", name := "combinedOffset", desc := "()J" } : Jvm.MethodName)) ∈ lw_tbl := zt_in2 (i := 88) rfl
theorem tw_569 : (Jvm.Cond.instanceMethod ({ cls := "StrataClient$Vote", name := "combinedOffset", desc := "()J" } : Jvm.MethodName)) ∈ lw_tbl := zt_in2 (i := 89) rfl
theorem tw_570 : (Jvm.Cond.selects "StrataClient$Vote" ({ cls := "StrataClient$Vote", name := "combinedOffset", desc := "()J" } : Jvm.MethodName) ({ cls := "StrataClient$Vote", name := "combinedOffset", desc := "()J" } : Jvm.MethodName)) ∈ lw_tbl := zt_in2 (i := 90) rfl
theorem tw_571 : (Jvm.Cond.code ({ cls := "StrataClient$Vote", name := "combinedOffset", desc := "()J" } : Jvm.MethodName) prog_4_method_7_code (4 : Nat) (Option.some Jvm.ClassFile.FieldType.long)) ∈ lw_tbl := zt_in2 (i := 91) rfl
theorem tw_572 : (Jvm.Cond.methodLink "StrataClient$Vote" (70 : Nat) ({ cls := "java/lang/Math", name := "floorDiv", desc := "(JJ)J" } : Jvm.MethodName)) ∈ lw_tbl := zt_in2 (i := 92) rfl
theorem tw_573 : (Jvm.Cond.methodLink "StrataClient" (167 : Nat) ({ cls := "java/lang/Math", name := "abs", desc := "(J)J" } : Jvm.MethodName)) ∈ lw_tbl := zt_in2 (i := 93) rfl
theorem tw_574 : (Jvm.Cond.constantLong "StrataClient" (170 : Nat) (4294967296000 : Int64)) ∈ lw_tbl := zt_in2 (i := 94) rfl
theorem tw_575 : (Jvm.Cond.classLink "StrataClient" (172 : Nat) "java/lang/UnsupportedOperationException") ∈ lw_tbl := zt_in2 (i := 95) rfl
theorem tw_576 : (Jvm.Cond.instantiable "java/lang/UnsupportedOperationException" (6 : Nat)) ∈ lw_tbl := zt_in2 (i := 96) rfl
theorem tw_577 : (Jvm.Cond.castable "java/lang/UnsupportedOperationException" "java/lang/UnsupportedOperationException") ∈ lw_tbl := zt_in2 (i := 97) rfl
theorem tw_578 : (Jvm.Cond.selects "java/lang/UnsupportedOperationException" ({ cls := "java/lang/Throwable", name := "fillInStackTrace", desc := "(I)Ljava/lang/Throwable;" } : Jvm.MethodName) ({ cls := "java/lang/Throwable", name := "fillInStackTrace", desc := "(I)Ljava/lang/Throwable;" } : Jvm.MethodName)) ∈ lw_tbl := zt_in2 (i := 98) rfl
theorem tw_579 : (Jvm.Cond.lays "java/lang/UnsupportedOperationException" "java/lang/Throwable" "cause" "Ljava/lang/Throwable;") ∈ lw_tbl := zt_in2 (i := 99) rfl
theorem tw_580 : (Jvm.Cond.lays "java/lang/UnsupportedOperationException" "java/lang/Throwable" "stackTrace" "[Ljava/lang/StackTraceElement;") ∈ lw_tbl := zt_in2 (i := 100) rfl
theorem tw_581 : (Jvm.Cond.lays "java/lang/UnsupportedOperationException" "java/lang/Throwable" "suppressedExceptions" "Ljava/util/List;") ∈ lw_tbl := zt_in2 (i := 101) rfl
theorem tw_582 : (Jvm.Cond.lays "java/lang/UnsupportedOperationException" "java/lang/Throwable" "detailMessage" "Ljava/lang/String;") ∈ lw_tbl := zt_in2 (i := 102) rfl
theorem tw_583 : (Jvm.Cond.lays "java/lang/UnsupportedOperationException" "java/lang/Throwable" "backtrace" "Ljava/lang/Object;") ∈ lw_tbl := zt_in2 (i := 103) rfl
theorem tw_584 : (Jvm.Cond.methodLink "StrataClient" (174 : Nat) ({ cls := "java/lang/UnsupportedOperationException", name := "<init>", desc := "()V" } : Jvm.MethodName)) ∈ lw_tbl := zt_in2 (i := 104) rfl
theorem tw_585 : (Jvm.Cond.instanceMethod ({ cls := "java/lang/UnsupportedOperationException", name := "<init>", desc := "()V" } : Jvm.MethodName)) ∈ lw_tbl := zt_in2 (i := 105) rfl
theorem tw_586 : (Jvm.Cond.code ({ cls := "java/lang/UnsupportedOperationException", name := "<init>", desc := "()V" } : Jvm.MethodName) prog_15_method_1_code (1 : Nat) (Option.none : Option Jvm.ClassFile.FieldType)) ∈ lw_tbl := zt_in2 (i := 106) rfl
theorem tw_587 : (Jvm.Cond.methodLink "java/lang/UnsupportedOperationException" (1 : Nat) ({ cls := "java/lang/RuntimeException", name := "<init>", desc := "()V" } : Jvm.MethodName)) ∈ lw_tbl := zt_in2 (i := 107) rfl
theorem tw_588 : (Jvm.Cond.lays "java/lang/UnsupportedOperationException" "java/lang/Throwable" "depth" "I") ∈ lw_tbl := zt_in2 (i := 108) rfl
theorem tw_589 : (Jvm.Cond.superclass "java/lang/UnsupportedOperationException" "java/lang/RuntimeException") ∈ lw_tbl := zt_in2 (i := 109) rfl
theorem tw_590 : (Jvm.Cond.constantLong "StrataClient" (175 : Nat) (536870912 : Int64)) ∈ lw_tbl := zt_in2 (i := 110) rfl
theorem tw_591 : (Jvm.Cond.methodLink "StrataClient" (177 : Nat) ({ cls := "StrataClient", name := "stepBy", desc := "(J)V" } : Jvm.MethodName)) ∈ lw_tbl := zt_in2 (i := 111) rfl
theorem tw_592 : (Jvm.Cond.privateMethod ({ cls := "StrataClient", name := "stepBy", desc := "(J)V" } : Jvm.MethodName)) ∈ lw_tbl := zt_in2 (i := 112) rfl
theorem tw_593 : (Jvm.Cond.instanceMethod ({ cls := "StrataClient", name := "stepBy", desc := "(J)V" } : Jvm.MethodName)) ∈ lw_tbl := zt_in2 (i := 113) rfl
theorem tw_594 : (Jvm.Cond.code ({ cls := "StrataClient", name := "stepBy", desc := "(J)V" } : Jvm.MethodName) prog_1_method_26_code (4 : Nat) (Option.none : Option Jvm.ClassFile.FieldType)) ∈ lw_tbl := zt_in2 (i := 114) rfl
theorem tw_595 : (Jvm.Cond.methodLink "StrataClient" (206 : Nat) ({ cls := "StrataClient$Server", name := "forget", desc := "()V" } : Jvm.MethodName)) ∈ lw_tbl := zt_in2 (i := 115) rfl
theorem tw_596 : (Jvm.Cond.instanceMethod ({ cls := "StrataClient$Server", name := "forget", desc := "()V" } : Jvm.MethodName)) ∈ lw_tbl := zt_in2 (i := 116) rfl
theorem tw_597 : (Jvm.Cond.selects "StrataClient$Server" ({ cls := "StrataClient$Server", name := "forget", desc := "()V" } : Jvm.MethodName) ({ cls := "StrataClient$Server", name := "forget", desc := "()V" } : Jvm.MethodName)) ∈ lw_tbl := zt_in2 (i := 117) rfl
theorem tw_598 : (Jvm.Cond.code ({ cls := "StrataClient$Server", name := "forget", desc := "()V" } : Jvm.MethodName) prog_3_method_8_code (1 : Nat) (Option.none : Option Jvm.ClassFile.FieldType)) ∈ lw_tbl := zt_in2 (i := 118) rfl
theorem tw_599 : (Jvm.Cond.methodLink "StrataClient" (180 : Nat) ({ cls := "StrataClient", name := "tunePolls", desc := "(J)V" } : Jvm.MethodName)) ∈ lw_tbl := zt_in2 (i := 119) rfl
theorem tw_600 : (Jvm.Cond.privateMethod ({ cls := "StrataClient", name := "tunePolls", desc := "(J)V" } : Jvm.MethodName)) ∈ lw_tbl := zt_in2 (i := 120) rfl
theorem tw_601 : (Jvm.Cond.instanceMethod ({ cls := "StrataClient", name := "tunePolls", desc := "(J)V" } : Jvm.MethodName)) ∈ lw_tbl := zt_in2 (i := 121) rfl
theorem tw_602 : (Jvm.Cond.code ({ cls := "StrataClient", name := "tunePolls", desc := "(J)V" } : Jvm.MethodName) prog_1_method_27_code (7 : Nat) (Option.none : Option Jvm.ClassFile.FieldType)) ∈ lw_tbl := zt_in2 (i := 122) rfl
theorem tw_603 : (Jvm.Cond.constantLong "StrataClient" (209 : Nat) (4 : Int64)) ∈ lw_tbl := zt_in2 (i := 123) rfl
theorem tw_604 : (Jvm.Cond.methodLink "StrataClient" (211 : Nat) ({ cls := "StrataClient$Server", name := "pollSooner", desc := "()V" } : Jvm.MethodName)) ∈ lw_tbl := zt_in2 (i := 124) rfl
theorem tw_605 : (Jvm.Cond.instanceMethod ({ cls := "StrataClient$Server", name := "pollSooner", desc := "()V" } : Jvm.MethodName)) ∈ lw_tbl := zt_in2 (i := 125) rfl
theorem tw_606 : (Jvm.Cond.selects "StrataClient$Server" ({ cls := "StrataClient$Server", name := "pollSooner", desc := "()V" } : Jvm.MethodName) ({ cls := "StrataClient$Server", name := "pollSooner", desc := "()V" } : Jvm.MethodName)) ∈ lw_tbl := zt_in2 (i := 126) rfl
theorem tw_607 : (Jvm.Cond.code ({ cls := "StrataClient$Server", name := "pollSooner", desc := "()V" } : Jvm.MethodName) prog_3_method_5_code (1 : Nat) (Option.none : Option Jvm.ClassFile.FieldType)) ∈ lw_tbl := zt_in2 (i := 127) rfl
theorem tw_608 : (Jvm.Cond.methodLink "StrataClient$Server" (64 : Nat) ({ cls := "java/lang/Math", name := "max", desc := "(II)I" } : Jvm.MethodName)) ∈ lw_tbl := zt_in2 (i := 128) rfl
theorem tw_609 : (Jvm.Cond.methodLink "StrataClient" (214 : Nat) ({ cls := "StrataClient$Vote", name := "has", desc := "(II)Z" } : Jvm.MethodName)) ∈ lw_tbl := zt_in2 (i := 129) rfl
theorem tw_610 : (Jvm.Cond.methodLink "StrataClient" (218 : Nat) ({ cls := "StrataClient$Server", name := "pollLater", desc := "()V" } : Jvm.MethodName)) ∈ lw_tbl := zt_in2 (i := 130) rfl
theorem tw_611 : (Jvm.Cond.classLink "StrataClientLaw" (75 : Nat) "StrataClientModel") ∈ lw_tbl := zt_in2 (i := 131) rfl
theorem tw_612 : (Jvm.Cond.instantiable "StrataClientModel" (20 : Nat)) ∈ lw_tbl := zt_in2 (i := 132) rfl
theorem tw_613 : (Jvm.Cond.methodLink "StrataClientLaw" (77 : Nat) ({ cls := "StrataClientModel", name := "<init>", desc := "()V" } : Jvm.MethodName)) ∈ lw_tbl := zt_in2 (i := 133) rfl
theorem tw_614 : (Jvm.Cond.instanceMethod ({ cls := "StrataClientModel", name := "<init>", desc := "()V" } : Jvm.MethodName)) ∈ lw_tbl := zt_in2 (i := 134) rfl
theorem tw_615 : (Jvm.Cond.code ({ cls := "StrataClientModel", name := "<init>", desc := "()V" } : Jvm.MethodName) prog_6_method_1_code (2 : Nat) (Option.none : Option Jvm.ClassFile.FieldType)) ∈ lw_tbl := zt_in2 (i := 135) rfl
theorem tw_616 : (Jvm.Cond.methodLink "StrataClientModel" (1 : Nat) ({ cls := "java/lang/Object", name := "<init>", desc := "()V" } : Jvm.MethodName)) ∈ lw_tbl := zt_in2 (i := 136) rfl
theorem tw_617 : (Jvm.Cond.fieldLink "StrataClientModel" (54 : Nat) "StrataClientModel" "thrown" "I") ∈ lw_tbl := zt_in2 (i := 137) rfl
theorem tw_618 : (Jvm.Cond.fieldLink "StrataClientModel" (66 : Nat) "StrataClientModel" "local" "J") ∈ lw_tbl := zt_in2 (i := 138) rfl
theorem tw_619 : (Jvm.Cond.fieldLink "StrataClientModel" (62 : Nat) "StrataClientModel" "slew" "J") ∈ lw_tbl := zt_in2 (i := 139) rfl
theorem tw_620 : (Jvm.Cond.fieldLink "StrataClientModel" (166 : Nat) "StrataClientModel" "set" "Z") ∈ lw_tbl := zt_in2 (i := 140) rfl
theorem tw_621 : (Jvm.Cond.fieldLink "StrataClientModel" (7 : Nat) "StrataClientModel" "packet" "[I") ∈ lw_tbl := zt_in2 (i := 141) rfl
theorem tw_622 : (Jvm.Cond.fieldLink "StrataClientModel" (13 : Nat) "StrataClientModel" "denied" "[Z") ∈ lw_tbl := zt_in2 (i := 142) rfl
theorem tw_623 : (Jvm.Cond.fieldLink "StrataClientModel" (17 : Nat) "StrataClientModel" "reaches" "[I") ∈ lw_tbl := zt_in2 (i := 143) rfl
theorem tw_624 : (Jvm.Cond.fieldLink "StrataClientModel" (20 : Nat) "StrataClientModel" "polls" "[I") ∈ lw_tbl := zt_in2 (i := 144) rfl
theorem tw_625 : (Jvm.Cond.fieldLink "StrataClientModel" (23 : Nat) "StrataClientModel" "asked" "[Z") ∈ lw_tbl := zt_in2 (i := 145) rfl
theorem tw_626 : (Jvm.Cond.fieldLink "StrataClientModel" (26 : Nat) "StrataClientModel" "expected" "[J") ∈ lw_tbl := zt_in2 (i := 146) rfl
theorem tw_627 : (Jvm.Cond.fieldLink "StrataClientModel" (30 : Nat) "StrataClientModel" "strata" "[I") ∈ lw_tbl := zt_in2 (i := 147) rfl
theorem tw_628 : (Jvm.Cond.fieldLink "StrataClientModel" (33 : Nat) "StrataClientModel" "rootDelays" "[J") ∈ lw_tbl := zt_in2 (i := 148) rfl
theorem tw_629 : (Jvm.Cond.fieldLink "StrataClientModel" (36 : Nat) "StrataClientModel" "rootDispersions" "[J") ∈ lw_tbl := zt_in2 (i := 149) rfl
theorem tw_630 : (Jvm.Cond.fieldLink "StrataClientModel" (39 : Nat) "StrataClientModel" "many" "[I") ∈ lw_tbl := zt_in2 (i := 150) rfl
theorem tw_631 : (Jvm.Cond.fieldLink "StrataClientModel" (42 : Nat) "StrataClientModel" "offsets" "[J") ∈ lw_tbl := zt_in2 (i := 151) rfl
theorem tw_632 : (Jvm.Cond.fieldLink "StrataClientModel" (45 : Nat) "StrataClientModel" "delays" "[J") ∈ lw_tbl := zt_in2 (i := 152) rfl
theorem tw_633 : (Jvm.Cond.fieldLink "StrataClientModel" (48 : Nat) "StrataClientModel" "came" "[J") ∈ lw_tbl := zt_in2 (i := 153) rfl
theorem tw_634 : (Jvm.Cond.fieldLink "StrataClientModel" (51 : Nat) "StrataClientModel" "inside" "[Z") ∈ lw_tbl := zt_in2 (i := 154) rfl
theorem tw_635 : (Jvm.Cond.fieldLink "StrataClientModel" (137 : Nat) "StrataClientModel" "low" "J") ∈ lw_tbl := zt_in2 (i := 155) rfl
theorem tw_636 : (Jvm.Cond.fieldLink "StrataClientModel" (140 : Nat) "StrataClientModel" "high" "J") ∈ lw_tbl := zt_in2 (i := 156) rfl
theorem tw_637 : (Jvm.Cond.lays "StrataClientModel" "StrataClientModel" "thrown" "I") ∈ lw_tbl := zt_in2 (i := 157) rfl
theorem tw_638 : (Jvm.Cond.soleField "StrataClientModel" "thrown") ∈ lw_tbl := zt_in2 (i := 158) rfl
theorem tw_639 : (Jvm.Cond.lays "StrataClientModel" "StrataClientModel" "local" "J") ∈ lw_tbl := zt_in2 (i := 159) rfl
theorem tw_640 : (Jvm.Cond.soleField "StrataClientModel" "local") ∈ lw_tbl := zt_in2 (i := 160) rfl
theorem tw_641 : (Jvm.Cond.lays "StrataClientModel" "StrataClientModel" "slew" "J") ∈ lw_tbl := zt_in2 (i := 161) rfl
theorem tw_642 : (Jvm.Cond.soleField "StrataClientModel" "slew") ∈ lw_tbl := zt_in2 (i := 162) rfl
theorem tw_643 : (Jvm.Cond.lays "StrataClientModel" "StrataClientModel" "set" "Z") ∈ lw_tbl := zt_in2 (i := 163) rfl
theorem tw_644 : (Jvm.Cond.soleField "StrataClientModel" "set") ∈ lw_tbl := zt_in2 (i := 164) rfl
theorem tw_645 : (Jvm.Cond.laysFinal "StrataClientModel" "StrataClientModel" "packet" "[I") ∈ lw_tbl := zt_in2 (i := 165) rfl
theorem tw_646 : (Jvm.Cond.soleField "StrataClientModel" "packet") ∈ lw_tbl := zt_in2 (i := 166) rfl
theorem tw_647 : (Jvm.Cond.laysFinal "StrataClientModel" "StrataClientModel" "denied" "[Z") ∈ lw_tbl := zt_in2 (i := 167) rfl
theorem tw_648 : (Jvm.Cond.soleField "StrataClientModel" "denied") ∈ lw_tbl := zt_in2 (i := 168) rfl
theorem tw_649 : (Jvm.Cond.laysFinal "StrataClientModel" "StrataClientModel" "reaches" "[I") ∈ lw_tbl := zt_in2 (i := 169) rfl
theorem tw_650 : (Jvm.Cond.soleField "StrataClientModel" "reaches") ∈ lw_tbl := zt_in2 (i := 170) rfl
theorem tw_651 : (Jvm.Cond.laysFinal "StrataClientModel" "StrataClientModel" "polls" "[I") ∈ lw_tbl := zt_in2 (i := 171) rfl
theorem tw_652 : (Jvm.Cond.soleField "StrataClientModel" "polls") ∈ lw_tbl := zt_in2 (i := 172) rfl
theorem tw_653 : (Jvm.Cond.laysFinal "StrataClientModel" "StrataClientModel" "asked" "[Z") ∈ lw_tbl := zt_in2 (i := 173) rfl
theorem tw_654 : (Jvm.Cond.soleField "StrataClientModel" "asked") ∈ lw_tbl := zt_in2 (i := 174) rfl
theorem tw_655 : (Jvm.Cond.laysFinal "StrataClientModel" "StrataClientModel" "expected" "[J") ∈ lw_tbl := zt_in2 (i := 175) rfl
theorem tw_656 : (Jvm.Cond.soleField "StrataClientModel" "expected") ∈ lw_tbl := zt_in2 (i := 176) rfl
theorem tw_657 : (Jvm.Cond.laysFinal "StrataClientModel" "StrataClientModel" "strata" "[I") ∈ lw_tbl := zt_in2 (i := 177) rfl
theorem tw_658 : (Jvm.Cond.soleField "StrataClientModel" "strata") ∈ lw_tbl := zt_in2 (i := 178) rfl
theorem tw_659 : (Jvm.Cond.laysFinal "StrataClientModel" "StrataClientModel" "rootDelays" "[J") ∈ lw_tbl := zt_in2 (i := 179) rfl
theorem tw_660 : (Jvm.Cond.soleField "StrataClientModel" "rootDelays") ∈ lw_tbl := zt_in2 (i := 180) rfl
theorem tw_661 : (Jvm.Cond.laysFinal "StrataClientModel" "StrataClientModel" "rootDispersions" "[J") ∈ lw_tbl := zt_in2 (i := 181) rfl
theorem tw_662 : (Jvm.Cond.soleField "StrataClientModel" "rootDispersions") ∈ lw_tbl := zt_in2 (i := 182) rfl
theorem tw_663 : (Jvm.Cond.laysFinal "StrataClientModel" "StrataClientModel" "many" "[I") ∈ lw_tbl := zt_in2 (i := 183) rfl
theorem tw_664 : (Jvm.Cond.soleField "StrataClientModel" "many") ∈ lw_tbl := zt_in2 (i := 184) rfl
theorem tw_665 : (Jvm.Cond.laysFinal "StrataClientModel" "StrataClientModel" "offsets" "[J") ∈ lw_tbl := zt_in2 (i := 185) rfl
theorem tw_666 : (Jvm.Cond.soleField "StrataClientModel" "offsets") ∈ lw_tbl := zt_in2 (i := 186) rfl
theorem tw_667 : (Jvm.Cond.laysFinal "StrataClientModel" "StrataClientModel" "delays" "[J") ∈ lw_tbl := zt_in2 (i := 187) rfl
theorem tw_668 : (Jvm.Cond.soleField "StrataClientModel" "delays") ∈ lw_tbl := zt_in2 (i := 188) rfl
theorem tw_669 : (Jvm.Cond.laysFinal "StrataClientModel" "StrataClientModel" "came" "[J") ∈ lw_tbl := zt_in2 (i := 189) rfl
theorem tw_670 : (Jvm.Cond.soleField "StrataClientModel" "came") ∈ lw_tbl := zt_in2 (i := 190) rfl
theorem tw_671 : (Jvm.Cond.laysFinal "StrataClientModel" "StrataClientModel" "inside" "[Z") ∈ lw_tbl := zt_in2 (i := 191) rfl
theorem tw_672 : (Jvm.Cond.soleField "StrataClientModel" "inside") ∈ lw_tbl := zt_in2 (i := 192) rfl
theorem tw_673 : (Jvm.Cond.lays "StrataClientModel" "StrataClientModel" "low" "J") ∈ lw_tbl := zt_in2 (i := 193) rfl
theorem tw_674 : (Jvm.Cond.soleField "StrataClientModel" "low") ∈ lw_tbl := zt_in2 (i := 194) rfl
theorem tw_675 : (Jvm.Cond.lays "StrataClientModel" "StrataClientModel" "high" "J") ∈ lw_tbl := zt_in2 (i := 195) rfl
theorem tw_676 : (Jvm.Cond.soleField "StrataClientModel" "high") ∈ lw_tbl := zt_in2 (i := 196) rfl
theorem tw_677 : (Jvm.Cond.superclass "StrataClientModel" "java/lang/Object") ∈ lw_tbl := zt_in2 (i := 197) rfl
theorem tw_678 : (Jvm.Cond.arrayClass Jvm.ClassFile.FieldType.int) ∈ lw_tbl := zt_in2 (i := 198) rfl
theorem tw_679 : (Jvm.Cond.arrayClass Jvm.ClassFile.FieldType.boolean) ∈ lw_tbl := zt_in2 (i := 199) rfl
theorem tw_680 : (Jvm.Cond.methodLink "StrataClientLaw" (86 : Nat) ({ cls := "StrataClientModel", name := "thrown", desc := "()I" } : Jvm.MethodName)) ∈ lw_tbl := zt_in2 (i := 200) rfl
theorem tw_681 : (Jvm.Cond.instanceMethod ({ cls := "StrataClientModel", name := "thrown", desc := "()I" } : Jvm.MethodName)) ∈ lw_tbl := zt_in2 (i := 201) rfl
theorem tw_682 : (Jvm.Cond.selects "StrataClientModel" ({ cls := "StrataClientModel", name := "thrown", desc := "()I" } : Jvm.MethodName) ({ cls := "StrataClientModel", name := "thrown", desc := "()I" } : Jvm.MethodName)) ∈ lw_tbl := zt_in2 (i := 202) rfl
theorem tw_683 : (Jvm.Cond.code ({ cls := "StrataClientModel", name := "thrown", desc := "()I" } : Jvm.MethodName) prog_6_method_2_code (1 : Nat) (Option.some Jvm.ClassFile.FieldType.int)) ∈ lw_tbl := zt_in2 (i := 203) rfl
theorem tw_684 : (Jvm.Cond.methodLink "StrataClientLaw" (85 : Nat) ({ cls := "StrataClientModel", name := "run", desc := "(J)V" } : Jvm.MethodName)) ∈ lw_tbl := zt_in2 (i := 204) rfl
theorem tw_685 : (Jvm.Cond.instanceMethod ({ cls := "StrataClientModel", name := "run", desc := "(J)V" } : Jvm.MethodName)) ∈ lw_tbl := zt_in2 (i := 205) rfl
theorem tw_686 : (Jvm.Cond.selects "StrataClientModel" ({ cls := "StrataClientModel", name := "run", desc := "(J)V" } : Jvm.MethodName) ({ cls := "StrataClientModel", name := "run", desc := "(J)V" } : Jvm.MethodName)) ∈ lw_tbl := zt_in2 (i := 206) rfl
theorem tw_687 : (Jvm.Cond.code ({ cls := "StrataClientModel", name := "run", desc := "(J)V" } : Jvm.MethodName) prog_6_method_5_code (7 : Nat) (Option.none : Option Jvm.ClassFile.FieldType)) ∈ lw_tbl := zt_in2 (i := 207) rfl
theorem tw_688 : (Jvm.Cond.constantLong "StrataClientModel" (58 : Nat) (1099511627776 : Int64)) ∈ lw_tbl := zt_in2 (i := 208) rfl
theorem tw_689 : (Jvm.Cond.constantLong "StrataClientModel" (60 : Nat) (2048 : Int64)) ∈ lw_tbl := zt_in2 (i := 209) rfl
theorem tw_690 : (Jvm.Cond.methodLink "StrataClientLaw" (92 : Nat) ({ cls := "StrataClientModel", name := "local", desc := "()J" } : Jvm.MethodName)) ∈ lw_tbl := zt_in2 (i := 210) rfl
theorem tw_691 : (Jvm.Cond.instanceMethod ({ cls := "StrataClientModel", name := "local", desc := "()J" } : Jvm.MethodName)) ∈ lw_tbl := zt_in2 (i := 211) rfl
theorem tw_692 : (Jvm.Cond.selects "StrataClientModel" ({ cls := "StrataClientModel", name := "local", desc := "()J" } : Jvm.MethodName) ({ cls := "StrataClientModel", name := "local", desc := "()J" } : Jvm.MethodName)) ∈ lw_tbl := zt_in2 (i := 212) rfl
theorem tw_693 : (Jvm.Cond.code ({ cls := "StrataClientModel", name := "local", desc := "()J" } : Jvm.MethodName) prog_6_method_6_code (1 : Nat) (Option.some Jvm.ClassFile.FieldType.long)) ∈ lw_tbl := zt_in2 (i := 213) rfl
theorem tw_694 : (Jvm.Cond.methodLink "StrataClientLaw" (96 : Nat) ({ cls := "StrataClientModel", name := "slew", desc := "()J" } : Jvm.MethodName)) ∈ lw_tbl := zt_in2 (i := 214) rfl
theorem tw_695 : (Jvm.Cond.instanceMethod ({ cls := "StrataClientModel", name := "slew", desc := "()J" } : Jvm.MethodName)) ∈ lw_tbl := zt_in2 (i := 215) rfl
theorem tw_696 : (Jvm.Cond.selects "StrataClientModel" ({ cls := "StrataClientModel", name := "slew", desc := "()J" } : Jvm.MethodName) ({ cls := "StrataClientModel", name := "slew", desc := "()J" } : Jvm.MethodName)) ∈ lw_tbl := zt_in2 (i := 216) rfl
theorem tw_697 : (Jvm.Cond.code ({ cls := "StrataClientModel", name := "slew", desc := "()J" } : Jvm.MethodName) prog_6_method_7_code (1 : Nat) (Option.some Jvm.ClassFile.FieldType.long)) ∈ lw_tbl := zt_in2 (i := 217) rfl
theorem tw_698 : (Jvm.Cond.methodLink "StrataClientLaw" (100 : Nat) ({ cls := "StrataClientModel", name := "put", desc := "(IJI)V" } : Jvm.MethodName)) ∈ lw_tbl := zt_in2 (i := 218) rfl
theorem tw_699 : (Jvm.Cond.instanceMethod ({ cls := "StrataClientModel", name := "put", desc := "(IJI)V" } : Jvm.MethodName)) ∈ lw_tbl := zt_in2 (i := 219) rfl
theorem tw_700 : (Jvm.Cond.selects "StrataClientModel" ({ cls := "StrataClientModel", name := "put", desc := "(IJI)V" } : Jvm.MethodName) ({ cls := "StrataClientModel", name := "put", desc := "(IJI)V" } : Jvm.MethodName)) ∈ lw_tbl := zt_in2 (i := 220) rfl
theorem tw_701 : (Jvm.Cond.code ({ cls := "StrataClientModel", name := "put", desc := "(IJI)V" } : Jvm.MethodName) prog_6_method_10_code (5 : Nat) (Option.none : Option Jvm.ClassFile.FieldType)) ∈ lw_tbl := zt_in2 (i := 221) rfl
theorem tw_702 : (Jvm.Cond.methodLink "StrataClientModel" (71 : Nat) ({ cls := "StrataClientModel", name := "write", desc := "(IJI)V" } : Jvm.MethodName)) ∈ lw_tbl := zt_in2 (i := 222) rfl
theorem tw_703 : (Jvm.Cond.privateMethod ({ cls := "StrataClientModel", name := "write", desc := "(IJI)V" } : Jvm.MethodName)) ∈ lw_tbl := zt_in2 (i := 223) rfl
theorem tw_704 : (Jvm.Cond.instanceMethod ({ cls := "StrataClientModel", name := "write", desc := "(IJI)V" } : Jvm.MethodName)) ∈ lw_tbl := zt_in2 (i := 224) rfl
theorem tw_705 : (Jvm.Cond.code ({ cls := "StrataClientModel", name := "write", desc := "(IJI)V" } : Jvm.MethodName) prog_6_method_8_code (6 : Nat) (Option.none : Option Jvm.ClassFile.FieldType)) ∈ lw_tbl := zt_in2 (i := 225) rfl
theorem tw_706 : (Jvm.Cond.constantLong "StrataClientModel" (69 : Nat) (255 : Int64)) ∈ lw_tbl := zt_in2 (i := 226) rfl
theorem tw_707 : (Jvm.Cond.methodLink "StrataClientLaw" (104 : Nat) ({ cls := "StrataClientModel", name := "echo", desc := "(IJJ)V" } : Jvm.MethodName)) ∈ lw_tbl := zt_in2 (i := 227) rfl
theorem tw_708 : (Jvm.Cond.instanceMethod ({ cls := "StrataClientModel", name := "echo", desc := "(IJJ)V" } : Jvm.MethodName)) ∈ lw_tbl := zt_in2 (i := 228) rfl
theorem tw_709 : (Jvm.Cond.selects "StrataClientModel" ({ cls := "StrataClientModel", name := "echo", desc := "(IJJ)V" } : Jvm.MethodName) ({ cls := "StrataClientModel", name := "echo", desc := "(IJJ)V" } : Jvm.MethodName)) ∈ lw_tbl := zt_in2 (i := 229) rfl
theorem tw_710 : (Jvm.Cond.code ({ cls := "StrataClientModel", name := "echo", desc := "(IJJ)V" } : Jvm.MethodName) prog_6_method_11_code (6 : Nat) (Option.none : Option Jvm.ClassFile.FieldType)) ∈ lw_tbl := zt_in2 (i := 230) rfl
theorem tw_711 : (Jvm.Cond.methodLink "StrataClientModel" (75 : Nat) ({ cls := "StrataClientModel", name := "isServer", desc := "(I)Z" } : Jvm.MethodName)) ∈ lw_tbl := zt_in2 (i := 231) rfl
theorem tw_712 : (Jvm.Cond.static ({ cls := "StrataClientModel", name := "isServer", desc := "(I)Z" } : Jvm.MethodName)) ∈ lw_tbl := zt_in2 (i := 232) rfl
theorem tw_713 : (Jvm.Cond.code ({ cls := "StrataClientModel", name := "isServer", desc := "(I)Z" } : Jvm.MethodName) prog_6_method_3_code (1 : Nat) (Option.some Jvm.ClassFile.FieldType.boolean)) ∈ lw_tbl := zt_in2 (i := 233) rfl
theorem tw_714 : (Jvm.Cond.methodLink "StrataClientLaw" (108 : Nat) ({ cls := "StrataClientModel", name := "send", desc := "(I)J" } : Jvm.MethodName)) ∈ lw_tbl := zt_in2 (i := 234) rfl
theorem tw_715 : (Jvm.Cond.instanceMethod ({ cls := "StrataClientModel", name := "send", desc := "(I)J" } : Jvm.MethodName)) ∈ lw_tbl := zt_in2 (i := 235) rfl
theorem tw_716 : (Jvm.Cond.selects "StrataClientModel" ({ cls := "StrataClientModel", name := "send", desc := "(I)J" } : Jvm.MethodName) ({ cls := "StrataClientModel", name := "send", desc := "(I)J" } : Jvm.MethodName)) ∈ lw_tbl := zt_in2 (i := 236) rfl
theorem tw_717 : (Jvm.Cond.code ({ cls := "StrataClientModel", name := "send", desc := "(I)J" } : Jvm.MethodName) prog_6_method_12_code (2 : Nat) (Option.some Jvm.ClassFile.FieldType.long)) ∈ lw_tbl := zt_in2 (i := 237) rfl
theorem tw_718 : (Jvm.Cond.methodLink "StrataClientLaw" (111 : Nat) ({ cls := "StrataClientModel", name := "receive", desc := "(I)I" } : Jvm.MethodName)) ∈ lw_tbl := zt_in2 (i := 238) rfl
theorem tw_719 : (Jvm.Cond.instanceMethod ({ cls := "StrataClientModel", name := "receive", desc := "(I)I" } : Jvm.MethodName)) ∈ lw_tbl := zt_in2 (i := 239) rfl
theorem tw_720 : (Jvm.Cond.selects "StrataClientModel" ({ cls := "StrataClientModel", name := "receive", desc := "(I)I" } : Jvm.MethodName) ({ cls := "StrataClientModel", name := "receive", desc := "(I)I" } : Jvm.MethodName)) ∈ lw_tbl := zt_in3 (i := 0) rfl
theorem tw_721 : (Jvm.Cond.code ({ cls := "StrataClientModel", name := "receive", desc := "(I)I" } : Jvm.MethodName) prog_6_method_15_code (16 : Nat) (Option.some Jvm.ClassFile.FieldType.int)) ∈ lw_tbl := zt_in3 (i := 1) rfl
theorem tw_722 : (Jvm.Cond.methodLink "StrataClientModel" (79 : Nat) ({ cls := "StrataClientModel", name := "read", desc := "(II)J" } : Jvm.MethodName)) ∈ lw_tbl := zt_in3 (i := 2) rfl
theorem tw_723 : (Jvm.Cond.privateMethod ({ cls := "StrataClientModel", name := "read", desc := "(II)J" } : Jvm.MethodName)) ∈ lw_tbl := zt_in3 (i := 3) rfl
theorem tw_724 : (Jvm.Cond.instanceMethod ({ cls := "StrataClientModel", name := "read", desc := "(II)J" } : Jvm.MethodName)) ∈ lw_tbl := zt_in3 (i := 4) rfl
theorem tw_725 : (Jvm.Cond.code ({ cls := "StrataClientModel", name := "read", desc := "(II)J" } : Jvm.MethodName) prog_6_method_9_code (6 : Nat) (Option.some Jvm.ClassFile.FieldType.long)) ∈ lw_tbl := zt_in3 (i := 5) rfl
theorem tw_726 : (Jvm.Cond.methodLink "StrataClientModel" (89 : Nat) ({ cls := "StrataClientModel", name := "kiss", desc := "(I)I" } : Jvm.MethodName)) ∈ lw_tbl := zt_in3 (i := 6) rfl
theorem tw_727 : (Jvm.Cond.privateMethod ({ cls := "StrataClientModel", name := "kiss", desc := "(I)I" } : Jvm.MethodName)) ∈ lw_tbl := zt_in3 (i := 7) rfl
theorem tw_728 : (Jvm.Cond.instanceMethod ({ cls := "StrataClientModel", name := "kiss", desc := "(I)I" } : Jvm.MethodName)) ∈ lw_tbl := zt_in3 (i := 8) rfl
theorem tw_729 : (Jvm.Cond.code ({ cls := "StrataClientModel", name := "kiss", desc := "(I)I" } : Jvm.MethodName) prog_6_method_14_code (4 : Nat) (Option.some Jvm.ClassFile.FieldType.int)) ∈ lw_tbl := zt_in3 (i := 9) rfl
theorem tw_730 : (Jvm.Cond.constantLong "StrataClientModel" (83 : Nat) (1145392729 : Int64)) ∈ lw_tbl := zt_in3 (i := 10) rfl
theorem tw_731 : (Jvm.Cond.constantLong "StrataClientModel" (85 : Nat) (1381192786 : Int64)) ∈ lw_tbl := zt_in3 (i := 11) rfl
theorem tw_732 : (Jvm.Cond.constantLong "StrataClientModel" (87 : Nat) (1380013125 : Int64)) ∈ lw_tbl := zt_in3 (i := 12) rfl
theorem tw_733 : (Jvm.Cond.methodLink "StrataClientModel" (93 : Nat) ({ cls := "StrataClientModel", name := "half", desc := "(JJ)J" } : Jvm.MethodName)) ∈ lw_tbl := zt_in3 (i := 13) rfl
theorem tw_734 : (Jvm.Cond.static ({ cls := "StrataClientModel", name := "half", desc := "(JJ)J" } : Jvm.MethodName)) ∈ lw_tbl := zt_in3 (i := 14) rfl
theorem tw_735 : (Jvm.Cond.code ({ cls := "StrataClientModel", name := "half", desc := "(JJ)J" } : Jvm.MethodName) prog_6_method_13_code (4 : Nat) (Option.some Jvm.ClassFile.FieldType.long)) ∈ lw_tbl := zt_in3 (i := 15) rfl
theorem tw_736 : (Jvm.Cond.constantLong "StrataClientModel" (97 : Nat) (4096 : Int64)) ∈ lw_tbl := zt_in3 (i := 16) rfl
theorem tw_737 : (Jvm.Cond.constantLong "StrataClientModel" (99 : Nat) (1152921504606846976 : Int64)) ∈ lw_tbl := zt_in3 (i := 17) rfl
theorem tw_738 : (Jvm.Cond.constantLong "StrataClientModel" (101 : Nat) (65536 : Int64)) ∈ lw_tbl := zt_in3 (i := 18) rfl
theorem tw_739 : (Jvm.Cond.methodLink "StrataClientLaw" (114 : Nat) ({ cls := "StrataClientModel", name := "reach", desc := "(I)I" } : Jvm.MethodName)) ∈ lw_tbl := zt_in3 (i := 19) rfl
theorem tw_740 : (Jvm.Cond.instanceMethod ({ cls := "StrataClientModel", name := "reach", desc := "(I)I" } : Jvm.MethodName)) ∈ lw_tbl := zt_in3 (i := 20) rfl
theorem tw_741 : (Jvm.Cond.selects "StrataClientModel" ({ cls := "StrataClientModel", name := "reach", desc := "(I)I" } : Jvm.MethodName) ({ cls := "StrataClientModel", name := "reach", desc := "(I)I" } : Jvm.MethodName)) ∈ lw_tbl := zt_in3 (i := 21) rfl
theorem tw_742 : (Jvm.Cond.code ({ cls := "StrataClientModel", name := "reach", desc := "(I)I" } : Jvm.MethodName) prog_6_method_16_code (2 : Nat) (Option.some Jvm.ClassFile.FieldType.int)) ∈ lw_tbl := zt_in3 (i := 22) rfl
theorem tw_743 : (Jvm.Cond.methodLink "StrataClientLaw" (117 : Nat) ({ cls := "StrataClientModel", name := "poll", desc := "(I)I" } : Jvm.MethodName)) ∈ lw_tbl := zt_in3 (i := 23) rfl
theorem tw_744 : (Jvm.Cond.instanceMethod ({ cls := "StrataClientModel", name := "poll", desc := "(I)I" } : Jvm.MethodName)) ∈ lw_tbl := zt_in3 (i := 24) rfl
theorem tw_745 : (Jvm.Cond.selects "StrataClientModel" ({ cls := "StrataClientModel", name := "poll", desc := "(I)I" } : Jvm.MethodName) ({ cls := "StrataClientModel", name := "poll", desc := "(I)I" } : Jvm.MethodName)) ∈ lw_tbl := zt_in3 (i := 25) rfl
theorem tw_746 : (Jvm.Cond.code ({ cls := "StrataClientModel", name := "poll", desc := "(I)I" } : Jvm.MethodName) prog_6_method_17_code (2 : Nat) (Option.some Jvm.ClassFile.FieldType.int)) ∈ lw_tbl := zt_in3 (i := 26) rfl
theorem tw_747 : (Jvm.Cond.methodLink "StrataClientLaw" (120 : Nat) ({ cls := "StrataClientModel", name := "samples", desc := "(I)I" } : Jvm.MethodName)) ∈ lw_tbl := zt_in3 (i := 27) rfl
theorem tw_748 : (Jvm.Cond.instanceMethod ({ cls := "StrataClientModel", name := "samples", desc := "(I)I" } : Jvm.MethodName)) ∈ lw_tbl := zt_in3 (i := 28) rfl
theorem tw_749 : (Jvm.Cond.selects "StrataClientModel" ({ cls := "StrataClientModel", name := "samples", desc := "(I)I" } : Jvm.MethodName) ({ cls := "StrataClientModel", name := "samples", desc := "(I)I" } : Jvm.MethodName)) ∈ lw_tbl := zt_in3 (i := 29) rfl
theorem tw_750 : (Jvm.Cond.code ({ cls := "StrataClientModel", name := "samples", desc := "(I)I" } : Jvm.MethodName) prog_6_method_18_code (2 : Nat) (Option.some Jvm.ClassFile.FieldType.int)) ∈ lw_tbl := zt_in3 (i := 30) rfl
theorem tw_751 : (Jvm.Cond.methodLink "StrataClientLaw" (123 : Nat) ({ cls := "StrataClientModel", name := "offset", desc := "(I)J" } : Jvm.MethodName)) ∈ lw_tbl := zt_in3 (i := 31) rfl
theorem tw_752 : (Jvm.Cond.instanceMethod ({ cls := "StrataClientModel", name := "offset", desc := "(I)J" } : Jvm.MethodName)) ∈ lw_tbl := zt_in3 (i := 32) rfl
theorem tw_753 : (Jvm.Cond.selects "StrataClientModel" ({ cls := "StrataClientModel", name := "offset", desc := "(I)J" } : Jvm.MethodName) ({ cls := "StrataClientModel", name := "offset", desc := "(I)J" } : Jvm.MethodName)) ∈ lw_tbl := zt_in3 (i := 33) rfl
theorem tw_754 : (Jvm.Cond.code ({ cls := "StrataClientModel", name := "offset", desc := "(I)J" } : Jvm.MethodName) prog_6_method_25_code (2 : Nat) (Option.some Jvm.ClassFile.FieldType.long)) ∈ lw_tbl := zt_in3 (i := 34) rfl
theorem tw_755 : (Jvm.Cond.methodLink "StrataClientModel" (119 : Nat) ({ cls := "StrataClientModel", name := "shows", desc := "(I)Z" } : Jvm.MethodName)) ∈ lw_tbl := zt_in3 (i := 35) rfl
theorem tw_756 : (Jvm.Cond.privateMethod ({ cls := "StrataClientModel", name := "shows", desc := "(I)Z" } : Jvm.MethodName)) ∈ lw_tbl := zt_in3 (i := 36) rfl
theorem tw_757 : (Jvm.Cond.instanceMethod ({ cls := "StrataClientModel", name := "shows", desc := "(I)Z" } : Jvm.MethodName)) ∈ lw_tbl := zt_in3 (i := 37) rfl
theorem tw_758 : (Jvm.Cond.code ({ cls := "StrataClientModel", name := "shows", desc := "(I)Z" } : Jvm.MethodName) prog_6_method_24_code (2 : Nat) (Option.some Jvm.ClassFile.FieldType.boolean)) ∈ lw_tbl := zt_in3 (i := 38) rfl
theorem tw_759 : (Jvm.Cond.methodLink "StrataClientModel" (122 : Nat) ({ cls := "StrataClientModel", name := "offsetOf", desc := "(I)J" } : Jvm.MethodName)) ∈ lw_tbl := zt_in3 (i := 39) rfl
theorem tw_760 : (Jvm.Cond.privateMethod ({ cls := "StrataClientModel", name := "offsetOf", desc := "(I)J" } : Jvm.MethodName)) ∈ lw_tbl := zt_in3 (i := 40) rfl
theorem tw_761 : (Jvm.Cond.instanceMethod ({ cls := "StrataClientModel", name := "offsetOf", desc := "(I)J" } : Jvm.MethodName)) ∈ lw_tbl := zt_in3 (i := 41) rfl
theorem tw_762 : (Jvm.Cond.code ({ cls := "StrataClientModel", name := "offsetOf", desc := "(I)J" } : Jvm.MethodName) prog_6_method_23_code (2 : Nat) (Option.some Jvm.ClassFile.FieldType.long)) ∈ lw_tbl := zt_in3 (i := 42) rfl
theorem tw_763 : (Jvm.Cond.methodLink "StrataClientModel" (109 : Nat) ({ cls := "StrataClientModel", name := "best", desc := "(I)I" } : Jvm.MethodName)) ∈ lw_tbl := zt_in3 (i := 43) rfl
theorem tw_764 : (Jvm.Cond.privateMethod ({ cls := "StrataClientModel", name := "best", desc := "(I)I" } : Jvm.MethodName)) ∈ lw_tbl := zt_in3 (i := 44) rfl
theorem tw_765 : (Jvm.Cond.instanceMethod ({ cls := "StrataClientModel", name := "best", desc := "(I)I" } : Jvm.MethodName)) ∈ lw_tbl := zt_in3 (i := 45) rfl
theorem tw_766 : (Jvm.Cond.code ({ cls := "StrataClientModel", name := "best", desc := "(I)I" } : Jvm.MethodName) prog_6_method_20_code (5 : Nat) (Option.some Jvm.ClassFile.FieldType.int)) ∈ lw_tbl := zt_in3 (i := 46) rfl
theorem tw_767 : (Jvm.Cond.constantLong "StrataClientModel" (103 : Nat) (2 : Int64)) ∈ lw_tbl := zt_in3 (i := 47) rfl
theorem tw_768 : (Jvm.Cond.methodLink "StrataClientModel" (105 : Nat) ({ cls := "StrataClientModel", name := "dispersion", desc := "(I)J" } : Jvm.MethodName)) ∈ lw_tbl := zt_in3 (i := 48) rfl
theorem tw_769 : (Jvm.Cond.privateMethod ({ cls := "StrataClientModel", name := "dispersion", desc := "(I)J" } : Jvm.MethodName)) ∈ lw_tbl := zt_in3 (i := 49) rfl
theorem tw_770 : (Jvm.Cond.instanceMethod ({ cls := "StrataClientModel", name := "dispersion", desc := "(I)J" } : Jvm.MethodName)) ∈ lw_tbl := zt_in3 (i := 50) rfl
theorem tw_771 : (Jvm.Cond.code ({ cls := "StrataClientModel", name := "dispersion", desc := "(I)J" } : Jvm.MethodName) prog_6_method_19_code (2 : Nat) (Option.some Jvm.ClassFile.FieldType.long)) ∈ lw_tbl := zt_in3 (i := 51) rfl
theorem tw_772 : (Jvm.Cond.methodLink "StrataClientLaw" (126 : Nat) ({ cls := "StrataClientModel", name := "delay", desc := "(I)J" } : Jvm.MethodName)) ∈ lw_tbl := zt_in3 (i := 52) rfl
theorem tw_773 : (Jvm.Cond.instanceMethod ({ cls := "StrataClientModel", name := "delay", desc := "(I)J" } : Jvm.MethodName)) ∈ lw_tbl := zt_in3 (i := 53) rfl
theorem tw_774 : (Jvm.Cond.selects "StrataClientModel" ({ cls := "StrataClientModel", name := "delay", desc := "(I)J" } : Jvm.MethodName) ({ cls := "StrataClientModel", name := "delay", desc := "(I)J" } : Jvm.MethodName)) ∈ lw_tbl := zt_in3 (i := 54) rfl
theorem tw_775 : (Jvm.Cond.code ({ cls := "StrataClientModel", name := "delay", desc := "(I)J" } : Jvm.MethodName) prog_6_method_26_code (2 : Nat) (Option.some Jvm.ClassFile.FieldType.long)) ∈ lw_tbl := zt_in3 (i := 55) rfl
theorem tw_776 : (Jvm.Cond.methodLink "StrataClientLaw" (129 : Nat) ({ cls := "StrataClientModel", name := "jitter", desc := "(I)J" } : Jvm.MethodName)) ∈ lw_tbl := zt_in3 (i := 56) rfl
theorem tw_777 : (Jvm.Cond.instanceMethod ({ cls := "StrataClientModel", name := "jitter", desc := "(I)J" } : Jvm.MethodName)) ∈ lw_tbl := zt_in3 (i := 57) rfl
theorem tw_778 : (Jvm.Cond.selects "StrataClientModel" ({ cls := "StrataClientModel", name := "jitter", desc := "(I)J" } : Jvm.MethodName) ({ cls := "StrataClientModel", name := "jitter", desc := "(I)J" } : Jvm.MethodName)) ∈ lw_tbl := zt_in3 (i := 58) rfl
theorem tw_779 : (Jvm.Cond.code ({ cls := "StrataClientModel", name := "jitter", desc := "(I)J" } : Jvm.MethodName) prog_6_method_27_code (2 : Nat) (Option.some Jvm.ClassFile.FieldType.long)) ∈ lw_tbl := zt_in3 (i := 59) rfl
theorem tw_780 : (Jvm.Cond.methodLink "StrataClientModel" (116 : Nat) ({ cls := "StrataClientModel", name := "jitterOf", desc := "(I)J" } : Jvm.MethodName)) ∈ lw_tbl := zt_in3 (i := 60) rfl
theorem tw_781 : (Jvm.Cond.privateMethod ({ cls := "StrataClientModel", name := "jitterOf", desc := "(I)J" } : Jvm.MethodName)) ∈ lw_tbl := zt_in3 (i := 61) rfl
theorem tw_782 : (Jvm.Cond.instanceMethod ({ cls := "StrataClientModel", name := "jitterOf", desc := "(I)J" } : Jvm.MethodName)) ∈ lw_tbl := zt_in3 (i := 62) rfl
theorem tw_783 : (Jvm.Cond.code ({ cls := "StrataClientModel", name := "jitterOf", desc := "(I)J" } : Jvm.MethodName) prog_6_method_21_code (9 : Nat) (Option.some Jvm.ClassFile.FieldType.long)) ∈ lw_tbl := zt_in3 (i := 63) rfl
theorem tw_784 : (Jvm.Cond.methodLink "StrataClientModel" (112 : Nat) ({ cls := "StrataClientModel", name := "size", desc := "(J)J" } : Jvm.MethodName)) ∈ lw_tbl := zt_in3 (i := 64) rfl
theorem tw_785 : (Jvm.Cond.static ({ cls := "StrataClientModel", name := "size", desc := "(J)J" } : Jvm.MethodName)) ∈ lw_tbl := zt_in3 (i := 65) rfl
theorem tw_786 : (Jvm.Cond.code ({ cls := "StrataClientModel", name := "size", desc := "(J)J" } : Jvm.MethodName) prog_6_method_4_code (2 : Nat) (Option.some Jvm.ClassFile.FieldType.long)) ∈ lw_tbl := zt_in3 (i := 66) rfl
theorem tw_787 : (Jvm.Cond.methodLink "StrataClientLaw" (132 : Nat) ({ cls := "StrataClientModel", name := "distance", desc := "(I)J" } : Jvm.MethodName)) ∈ lw_tbl := zt_in3 (i := 67) rfl
theorem tw_788 : (Jvm.Cond.instanceMethod ({ cls := "StrataClientModel", name := "distance", desc := "(I)J" } : Jvm.MethodName)) ∈ lw_tbl := zt_in3 (i := 68) rfl
theorem tw_789 : (Jvm.Cond.selects "StrataClientModel" ({ cls := "StrataClientModel", name := "distance", desc := "(I)J" } : Jvm.MethodName) ({ cls := "StrataClientModel", name := "distance", desc := "(I)J" } : Jvm.MethodName)) ∈ lw_tbl := zt_in3 (i := 69) rfl
theorem tw_790 : (Jvm.Cond.code ({ cls := "StrataClientModel", name := "distance", desc := "(I)J" } : Jvm.MethodName) prog_6_method_28_code (2 : Nat) (Option.some Jvm.ClassFile.FieldType.long)) ∈ lw_tbl := zt_in3 (i := 70) rfl
theorem tw_791 : (Jvm.Cond.methodLink "StrataClientModel" (125 : Nat) ({ cls := "StrataClientModel", name := "distanceOf", desc := "(I)J" } : Jvm.MethodName)) ∈ lw_tbl := zt_in3 (i := 71) rfl
theorem tw_792 : (Jvm.Cond.privateMethod ({ cls := "StrataClientModel", name := "distanceOf", desc := "(I)J" } : Jvm.MethodName)) ∈ lw_tbl := zt_in3 (i := 72) rfl
theorem tw_793 : (Jvm.Cond.instanceMethod ({ cls := "StrataClientModel", name := "distanceOf", desc := "(I)J" } : Jvm.MethodName)) ∈ lw_tbl := zt_in3 (i := 73) rfl
theorem tw_794 : (Jvm.Cond.code ({ cls := "StrataClientModel", name := "distanceOf", desc := "(I)J" } : Jvm.MethodName) prog_6_method_22_code (3 : Nat) (Option.some Jvm.ClassFile.FieldType.long)) ∈ lw_tbl := zt_in3 (i := 74) rfl
theorem tw_795 : (Jvm.Cond.methodLink "StrataClientLaw" (136 : Nat) ({ cls := "StrataClientModel", name := "candidates", desc := "()I" } : Jvm.MethodName)) ∈ lw_tbl := zt_in3 (i := 75) rfl
theorem tw_796 : (Jvm.Cond.instanceMethod ({ cls := "StrataClientModel", name := "candidates", desc := "()I" } : Jvm.MethodName)) ∈ lw_tbl := zt_in3 (i := 76) rfl
theorem tw_797 : (Jvm.Cond.selects "StrataClientModel" ({ cls := "StrataClientModel", name := "candidates", desc := "()I" } : Jvm.MethodName) ({ cls := "StrataClientModel", name := "candidates", desc := "()I" } : Jvm.MethodName)) ∈ lw_tbl := zt_in3 (i := 77) rfl
theorem tw_798 : (Jvm.Cond.code ({ cls := "StrataClientModel", name := "candidates", desc := "()I" } : Jvm.MethodName) prog_6_method_30_code (3 : Nat) (Option.some Jvm.ClassFile.FieldType.int)) ∈ lw_tbl := zt_in3 (i := 78) rfl
theorem tw_799 : (Jvm.Cond.methodLink "StrataClientModel" (130 : Nat) ({ cls := "StrataClientModel", name := "isCandidate", desc := "(I)Z" } : Jvm.MethodName)) ∈ lw_tbl := zt_in3 (i := 79) rfl
theorem tw_800 : (Jvm.Cond.privateMethod ({ cls := "StrataClientModel", name := "isCandidate", desc := "(I)Z" } : Jvm.MethodName)) ∈ lw_tbl := zt_in3 (i := 80) rfl
theorem tw_801 : (Jvm.Cond.instanceMethod ({ cls := "StrataClientModel", name := "isCandidate", desc := "(I)Z" } : Jvm.MethodName)) ∈ lw_tbl := zt_in3 (i := 81) rfl
theorem tw_802 : (Jvm.Cond.code ({ cls := "StrataClientModel", name := "isCandidate", desc := "(I)Z" } : Jvm.MethodName) prog_6_method_29_code (2 : Nat) (Option.some Jvm.ClassFile.FieldType.boolean)) ∈ lw_tbl := zt_in3 (i := 82) rfl
theorem tw_803 : (Jvm.Cond.constantLong "StrataClientModel" (128 : Nat) (6442450944 : Int64)) ∈ lw_tbl := zt_in3 (i := 83) rfl
theorem tw_804 : (Jvm.Cond.methodLink "StrataClientLaw" (140 : Nat) ({ cls := "StrataClientModel", name := "low", desc := "()J" } : Jvm.MethodName)) ∈ lw_tbl := zt_in3 (i := 84) rfl
theorem tw_805 : (Jvm.Cond.instanceMethod ({ cls := "StrataClientModel", name := "low", desc := "()J" } : Jvm.MethodName)) ∈ lw_tbl := zt_in3 (i := 85) rfl
theorem tw_806 : (Jvm.Cond.selects "StrataClientModel" ({ cls := "StrataClientModel", name := "low", desc := "()J" } : Jvm.MethodName) ({ cls := "StrataClientModel", name := "low", desc := "()J" } : Jvm.MethodName)) ∈ lw_tbl := zt_in3 (i := 86) rfl
theorem tw_807 : (Jvm.Cond.code ({ cls := "StrataClientModel", name := "low", desc := "()J" } : Jvm.MethodName) prog_6_method_33_code (1 : Nat) (Option.some Jvm.ClassFile.FieldType.long)) ∈ lw_tbl := zt_in3 (i := 87) rfl
theorem tw_808 : (Jvm.Cond.methodLink "StrataClientModel" (143 : Nat) ({ cls := "StrataClientModel", name := "majority", desc := "()Z" } : Jvm.MethodName)) ∈ lw_tbl := zt_in3 (i := 88) rfl
theorem tw_809 : (Jvm.Cond.privateMethod ({ cls := "StrataClientModel", name := "majority", desc := "()Z" } : Jvm.MethodName)) ∈ lw_tbl := zt_in3 (i := 89) rfl
theorem tw_810 : (Jvm.Cond.instanceMethod ({ cls := "StrataClientModel", name := "majority", desc := "()Z" } : Jvm.MethodName)) ∈ lw_tbl := zt_in3 (i := 90) rfl
theorem tw_811 : (Jvm.Cond.code ({ cls := "StrataClientModel", name := "majority", desc := "()Z" } : Jvm.MethodName) prog_6_method_32_code (7 : Nat) (Option.some Jvm.ClassFile.FieldType.boolean)) ∈ lw_tbl := zt_in3 (i := 91) rfl
theorem tw_812 : (Jvm.Cond.methodLink "StrataClientModel" (133 : Nat) ({ cls := "StrataClientModel", name := "isCommon", desc := "(J)Z" } : Jvm.MethodName)) ∈ lw_tbl := zt_in3 (i := 92) rfl
theorem tw_813 : (Jvm.Cond.privateMethod ({ cls := "StrataClientModel", name := "isCommon", desc := "(J)Z" } : Jvm.MethodName)) ∈ lw_tbl := zt_in3 (i := 93) rfl
theorem tw_814 : (Jvm.Cond.instanceMethod ({ cls := "StrataClientModel", name := "isCommon", desc := "(J)Z" } : Jvm.MethodName)) ∈ lw_tbl := zt_in3 (i := 94) rfl
theorem tw_815 : (Jvm.Cond.code ({ cls := "StrataClientModel", name := "isCommon", desc := "(J)Z" } : Jvm.MethodName) prog_6_method_31_code (6 : Nat) (Option.some Jvm.ClassFile.FieldType.boolean)) ∈ lw_tbl := zt_in3 (i := 95) rfl
theorem tw_816 : (Jvm.Cond.methodLink "StrataClientLaw" (143 : Nat) ({ cls := "StrataClientModel", name := "high", desc := "()J" } : Jvm.MethodName)) ∈ lw_tbl := zt_in3 (i := 96) rfl
theorem tw_817 : (Jvm.Cond.instanceMethod ({ cls := "StrataClientModel", name := "high", desc := "()J" } : Jvm.MethodName)) ∈ lw_tbl := zt_in3 (i := 97) rfl
theorem tw_818 : (Jvm.Cond.selects "StrataClientModel" ({ cls := "StrataClientModel", name := "high", desc := "()J" } : Jvm.MethodName) ({ cls := "StrataClientModel", name := "high", desc := "()J" } : Jvm.MethodName)) ∈ lw_tbl := zt_in3 (i := 98) rfl
theorem tw_819 : (Jvm.Cond.code ({ cls := "StrataClientModel", name := "high", desc := "()J" } : Jvm.MethodName) prog_6_method_34_code (1 : Nat) (Option.some Jvm.ClassFile.FieldType.long)) ∈ lw_tbl := zt_in3 (i := 99) rfl
theorem tw_820 : (Jvm.Cond.methodLink "StrataClientLaw" (147 : Nat) ({ cls := "StrataClientModel", name := "survivors", desc := "()I" } : Jvm.MethodName)) ∈ lw_tbl := zt_in3 (i := 100) rfl
theorem tw_821 : (Jvm.Cond.instanceMethod ({ cls := "StrataClientModel", name := "survivors", desc := "()I" } : Jvm.MethodName)) ∈ lw_tbl := zt_in3 (i := 101) rfl
theorem tw_822 : (Jvm.Cond.selects "StrataClientModel" ({ cls := "StrataClientModel", name := "survivors", desc := "()I" } : Jvm.MethodName) ({ cls := "StrataClientModel", name := "survivors", desc := "()I" } : Jvm.MethodName)) ∈ lw_tbl := zt_in3 (i := 102) rfl
theorem tw_823 : (Jvm.Cond.code ({ cls := "StrataClientModel", name := "survivors", desc := "()I" } : Jvm.MethodName) prog_6_method_37_code (3 : Nat) (Option.some Jvm.ClassFile.FieldType.int)) ∈ lw_tbl := zt_in3 (i := 103) rfl
theorem tw_824 : (Jvm.Cond.methodLink "StrataClientModel" (152 : Nat) ({ cls := "StrataClientModel", name := "survive", desc := "()I" } : Jvm.MethodName)) ∈ lw_tbl := zt_in3 (i := 104) rfl
theorem tw_825 : (Jvm.Cond.privateMethod ({ cls := "StrataClientModel", name := "survive", desc := "()I" } : Jvm.MethodName)) ∈ lw_tbl := zt_in3 (i := 105) rfl
theorem tw_826 : (Jvm.Cond.instanceMethod ({ cls := "StrataClientModel", name := "survive", desc := "()I" } : Jvm.MethodName)) ∈ lw_tbl := zt_in3 (i := 106) rfl
theorem tw_827 : (Jvm.Cond.code ({ cls := "StrataClientModel", name := "survive", desc := "()I" } : Jvm.MethodName) prog_6_method_36_code (9 : Nat) (Option.some Jvm.ClassFile.FieldType.int)) ∈ lw_tbl := zt_in3 (i := 107) rfl
theorem tw_828 : (Jvm.Cond.constantLong "StrataClientModel" (147 : Nat) (-1 : Int64)) ∈ lw_tbl := zt_in3 (i := 108) rfl
theorem tw_829 : (Jvm.Cond.methodLink "StrataClientModel" (149 : Nat) ({ cls := "StrataClientModel", name := "spread", desc := "(I)J" } : Jvm.MethodName)) ∈ lw_tbl := zt_in3 (i := 109) rfl
theorem tw_830 : (Jvm.Cond.privateMethod ({ cls := "StrataClientModel", name := "spread", desc := "(I)J" } : Jvm.MethodName)) ∈ lw_tbl := zt_in3 (i := 110) rfl
theorem tw_831 : (Jvm.Cond.instanceMethod ({ cls := "StrataClientModel", name := "spread", desc := "(I)J" } : Jvm.MethodName)) ∈ lw_tbl := zt_in3 (i := 111) rfl
theorem tw_832 : (Jvm.Cond.code ({ cls := "StrataClientModel", name := "spread", desc := "(I)J" } : Jvm.MethodName) prog_6_method_35_code (5 : Nat) (Option.some Jvm.ClassFile.FieldType.long)) ∈ lw_tbl := zt_in3 (i := 112) rfl
theorem tw_833 : (Jvm.Cond.methodLink "StrataClientLaw" (150 : Nat) ({ cls := "StrataClientModel", name := "peer", desc := "()I" } : Jvm.MethodName)) ∈ lw_tbl := zt_in3 (i := 113) rfl
theorem tw_834 : (Jvm.Cond.instanceMethod ({ cls := "StrataClientModel", name := "peer", desc := "()I" } : Jvm.MethodName)) ∈ lw_tbl := zt_in3 (i := 114) rfl
theorem tw_835 : (Jvm.Cond.selects "StrataClientModel" ({ cls := "StrataClientModel", name := "peer", desc := "()I" } : Jvm.MethodName) ({ cls := "StrataClientModel", name := "peer", desc := "()I" } : Jvm.MethodName)) ∈ lw_tbl := zt_in3 (i := 115) rfl
theorem tw_836 : (Jvm.Cond.code ({ cls := "StrataClientModel", name := "peer", desc := "()I" } : Jvm.MethodName) prog_6_method_39_code (1 : Nat) (Option.some Jvm.ClassFile.FieldType.int)) ∈ lw_tbl := zt_in3 (i := 116) rfl
theorem tw_837 : (Jvm.Cond.methodLink "StrataClientModel" (156 : Nat) ({ cls := "StrataClientModel", name := "peerOf", desc := "()I" } : Jvm.MethodName)) ∈ lw_tbl := zt_in3 (i := 117) rfl
theorem tw_838 : (Jvm.Cond.privateMethod ({ cls := "StrataClientModel", name := "peerOf", desc := "()I" } : Jvm.MethodName)) ∈ lw_tbl := zt_in3 (i := 118) rfl
theorem tw_839 : (Jvm.Cond.instanceMethod ({ cls := "StrataClientModel", name := "peerOf", desc := "()I" } : Jvm.MethodName)) ∈ lw_tbl := zt_in3 (i := 119) rfl
theorem tw_840 : (Jvm.Cond.code ({ cls := "StrataClientModel", name := "peerOf", desc := "()I" } : Jvm.MethodName) prog_6_method_38_code (4 : Nat) (Option.some Jvm.ClassFile.FieldType.int)) ∈ lw_tbl := zt_in3 (i := 120) rfl
theorem tw_841 : (Jvm.Cond.methodLink "StrataClientLaw" (153 : Nat) ({ cls := "StrataClientModel", name := "update", desc := "()I" } : Jvm.MethodName)) ∈ lw_tbl := zt_in3 (i := 121) rfl
theorem tw_842 : (Jvm.Cond.instanceMethod ({ cls := "StrataClientModel", name := "update", desc := "()I" } : Jvm.MethodName)) ∈ lw_tbl := zt_in3 (i := 122) rfl
theorem tw_843 : (Jvm.Cond.selects "StrataClientModel" ({ cls := "StrataClientModel", name := "update", desc := "()I" } : Jvm.MethodName) ({ cls := "StrataClientModel", name := "update", desc := "()I" } : Jvm.MethodName)) ∈ lw_tbl := zt_in3 (i := 123) rfl
theorem tw_844 : (Jvm.Cond.code ({ cls := "StrataClientModel", name := "update", desc := "()I" } : Jvm.MethodName) prog_6_method_43_code (4 : Nat) (Option.some Jvm.ClassFile.FieldType.int)) ∈ lw_tbl := zt_in3 (i := 124) rfl
theorem tw_845 : (Jvm.Cond.methodLink "StrataClientModel" (161 : Nat) ({ cls := "StrataClientModel", name := "combined", desc := "(I)J" } : Jvm.MethodName)) ∈ lw_tbl := zt_in3 (i := 125) rfl
theorem tw_846 : (Jvm.Cond.privateMethod ({ cls := "StrataClientModel", name := "combined", desc := "(I)J" } : Jvm.MethodName)) ∈ lw_tbl := zt_in3 (i := 126) rfl
theorem tw_847 : (Jvm.Cond.instanceMethod ({ cls := "StrataClientModel", name := "combined", desc := "(I)J" } : Jvm.MethodName)) ∈ lw_tbl := zt_in3 (i := 127) rfl
theorem tw_848 : (Jvm.Cond.code ({ cls := "StrataClientModel", name := "combined", desc := "(I)J" } : Jvm.MethodName) prog_6_method_40_code (6 : Nat) (Option.some Jvm.ClassFile.FieldType.long)) ∈ lw_tbl := zt_in3 (i := 128) rfl
theorem tw_849 : (Jvm.Cond.constantLong "StrataClientModel" (164 : Nat) (4294967296000 : Int64)) ∈ lw_tbl := zt_in3 (i := 129) rfl
theorem tw_850 : (Jvm.Cond.constantLong "StrataClientModel" (170 : Nat) (536870912 : Int64)) ∈ lw_tbl := zt_in3 (i := 130) rfl
theorem tw_851 : (Jvm.Cond.methodLink "StrataClientModel" (172 : Nat) ({ cls := "StrataClientModel", name := "step", desc := "(J)V" } : Jvm.MethodName)) ∈ lw_tbl := zt_in3 (i := 131) rfl
theorem tw_852 : (Jvm.Cond.privateMethod ({ cls := "StrataClientModel", name := "step", desc := "(J)V" } : Jvm.MethodName)) ∈ lw_tbl := zt_in3 (i := 132) rfl
theorem tw_853 : (Jvm.Cond.instanceMethod ({ cls := "StrataClientModel", name := "step", desc := "(J)V" } : Jvm.MethodName)) ∈ lw_tbl := zt_in3 (i := 133) rfl
theorem tw_854 : (Jvm.Cond.code ({ cls := "StrataClientModel", name := "step", desc := "(J)V" } : Jvm.MethodName) prog_6_method_41_code (4 : Nat) (Option.none : Option Jvm.ClassFile.FieldType)) ∈ lw_tbl := zt_in3 (i := 134) rfl
theorem tw_855 : (Jvm.Cond.methodLink "StrataClientModel" (176 : Nat) ({ cls := "StrataClientModel", name := "slow", desc := "(J)V" } : Jvm.MethodName)) ∈ lw_tbl := zt_in3 (i := 135) rfl
theorem tw_856 : (Jvm.Cond.privateMethod ({ cls := "StrataClientModel", name := "slow", desc := "(J)V" } : Jvm.MethodName)) ∈ lw_tbl := zt_in3 (i := 136) rfl
theorem tw_857 : (Jvm.Cond.instanceMethod ({ cls := "StrataClientModel", name := "slow", desc := "(J)V" } : Jvm.MethodName)) ∈ lw_tbl := zt_in3 (i := 137) rfl
theorem tw_858 : (Jvm.Cond.code ({ cls := "StrataClientModel", name := "slow", desc := "(J)V" } : Jvm.MethodName) prog_6_method_42_code (5 : Nat) (Option.none : Option Jvm.ClassFile.FieldType)) ∈ lw_tbl := zt_in3 (i := 138) rfl
theorem tw_859 : (Jvm.Cond.constantLong "StrataClientModel" (159 : Nat) (4 : Int64)) ∈ lw_tbl := zt_in3 (i := 139) rfl
theorem tw_860 : (Jvm.Cond.constantLong "StrataClientLaw" (78 : Nat) (4294967295 : Int64)) ∈ lw_tbl := zt_in3 (i := 140) rfl
theorem tw_861 : (Jvm.Cond.sameMethod "java/lang/Throwable" "java/lang/Throwable" "fillInStackTrace" "(I)Ljava/lang/Throwable;") ∈ lw_tbl := zt_in3 (i := 141) rfl
end
section
/-! Rows of my own: reading methods (the heap stays), places by natural numbers -/
def zz_Q (r : Value) : Array Value → State → Outcome → State → Prop := fun _ st o t => o = .returned (some r) ∧ t.heap = st.heap
/-- the tables' words, wherever a method stands -/
def zt_TB (U : State) : Prop := ∀ w ∈ lw_tbl, goodWord w = true → w.before #[] U = true
theorem zt_TB.w {U : State} (h : zt_TB U) {w : Cond} (hm : w ∈ lw_tbl) (hg : goodWord w = true := by rfl) {A : Array Value} : w.before A U = true := word_at (State.WarmedH.refl U) (good_of_word hg) (h w hm hg)
theorem zt_TB.moved {s U : State} (hW : s.WarmedH U.vm) (h : zt_TB s) : zt_TB U := fun w hm hg => word_at hW (good_of_word hg) (h w hm hg)
theorem zt_TB.of {s : State} {A : Array Value} (h : ∀ w ∈ lw_tbl, w.before A s = true) : zt_TB s := fun w hm hg => word_at (State.WarmedH.refl s) (good_of_word hg) (h w hm)
theorem zt_TB.ws {s : State} (h : zt_TB s) {C : String} {T : u_T} {N : Nat} (hin : ∀ w ∈ u_ws C T N, w ∈ lw_tbl) (hg : (u_ws C T N).all goodWord = true) {A : Array Value} : ∀ w ∈ u_ws C T N, w.before A s = true := fun w hw => h.w (hin w hw) (List.all_eq_true.mp hg w hw)
/-- a reading method's start: the tables, the world -/
def zz_B (D : va_G) (cl : List vw_C) (tys : List (ClassId × FieldType)) (ws : va_W) : State → Prop := fun U => zt_TB U ∧ va_P D cl ws U.heap ∧ va_K D cl tys U
section ZZ
variable {p : Program} {l : Launch} {e : Env} {R : Room} {s : State} {m : MethodId} {args : Array Value} {below : List Frame} {meth : Method} {c : Code} {H : Heap} {locs : List Loc} {cells slots : Nat} {Q : State → Prop}
variable {cc : ByteArray} {pc : Nat} {ls : Array Slot} {rest st0 As : List Value} {D : va_G} {cl : List vw_C} {tys : List (ClassId × FieldType)} {ws : va_W} {a : Nat}
theorem zz_blind {av : List Value} : FrameBlind (va_Pc av (zz_B D cl tys ws)) := by
  intro a U g mk q
  obtain ⟨q0, qT, qP, qK⟩ := q
  exact ⟨q0, zt_TB.moved (s := U) (U := U.calling g mk a) (State.WarmedH.refl U) qT, qP, va_K.moved (u := U) (U := U.calling g mk a) (Vm.Alike.refl U.vm) qK⟩
theorem zz_preS (hT : zt_TB s) (hP : va_P D cl ws H) (hK : va_K D cl tys s) : PreS s H (va_Pc As (zz_B D cl tys ws)) As :=
  ⟨zz_blind, fun U hU hW => ⟨rfl, hT.moved hW, by rw [hU]; exact hP, va_K.moved hW.alike hK⟩⟩
theorem zz_preV {C : String} {T : u_T} {N ci q0 b : Nat} {fs : List Value} (hT : zt_TB s) (hP : va_P D cl ws H) (hK : va_K D cl tys s) (hc : cl[ci]? = some (C, T, N)) (he : ws[q0]? = some (b, .inr (ci, fs))) : PreV s H C b (va_Pc (.ref b :: As) (zz_B D cl tys ws)) As :=
  ⟨zz_blind, va_recv hK hP hc he, fun U hU hW => ⟨rfl, hT.moved hW, by rw [hU]; exact hP, va_K.moved hW.alike hK⟩⟩
/-- behind a call of a reading method: the same heap -/
theorem zz_call {r : Value} {av : Array Value} (hr : va_Run p l e R s m args below meth c H locs cells slots 0 0 (F0 m pc ls st0) rest (zz_Q r av) (fun _ => False))
    (kk : W p l e R s m args below meth c H locs cells slots Q (F0 m (pc + 3) ls (r :: rest))) : W p l e R s m args below meth c H locs cells slots Q (F0 m pc ls st0) := by
  intro T hT X
  obtain ⟨v, st₀, t, T', L, h0, X', hL, e1, e2, ⟨hv, hh⟩, st⟩ := hr T hT X
  cases hv
  have hL9 : L = [] := by
    cases L with
    | nil => rfl
    | cons q L => exact (hL q List.mem_cons_self).elim
  subst hL9
  rw [List.append_nil] at X'
  obtain ⟨t2, a1, b1⟩ := kk T' (by rw [e1, hh, h0]) X'
  exact ⟨t2, st t2 a1, b1⟩
theorem zz_lret {v r : Int64} (hexec : p.tables.exec = Jvm.exec) (hb : c.code = cc) (hr : meth.sig.returnType = some .long) (hlocks : meth.locks = false) (hdg : decode cc pc = .ok (.lreturn, 1)) (hv : v = r) :
    W p l e R s m args below meth c s.heap [] 0 0 (MQ below (zz_Q (.long r)) args s 0 0 (fun _ => False)) (F0 m pc ls [.long v]) := by
  subst hv
  exact W.lret hexec hb hr (fun t ht _ => ⟨rfl, ht⟩) (fun q h => by cases h) hdg hlocks
theorem zz_iret {v r : Int32} (hexec : p.tables.exec = Jvm.exec) (hb : c.code = cc) (hr : meth.sig.returnType = some .int) (hlocks : meth.locks = false) (hdg : decode cc pc = .ok (.ireturn, 1)) (hv : v = r) :
    W p l e R s m args below meth c s.heap [] 0 0 (MQ below (zz_Q (.int r)) args s 0 0 (fun _ => False)) (F0 m pc ls [.int v]) := by
  subst hv
  exact W.iret hexec hb hr (fun t ht _ => ⟨rfl, ht⟩) (fun q h => by cases h) hdg hlocks
theorem zz_bret {v r : Int32} (hexec : p.tables.exec = Jvm.exec) (hb : c.code = cc) (hr : meth.sig.returnType = some .boolean) (hlocks : meth.locks = false) (hdg : decode cc pc = .ok (.ireturn, 1)) (hn : narrow .boolean (.int v) = .int v) (hv : v = r) :
    W p l e R s m args below meth c s.heap [] 0 0 (MQ below (zz_Q (.int r)) args s 0 0 (fun _ => False)) (F0 m pc ls [.int v]) := by
  subst hv
  exact W.zret hexec hb hr hn (fun t ht _ => ⟨rfl, ht⟩) (fun q h => by cases h) hdg hlocks
theorem zz_lald (hexec : p.tables.exec = Jvm.exec) (hb : c.code = cc) (hK : va_K D cl tys s) (hP : va_P D cl ws H) (q0 t0 : Nat) {cA : ClassId} {n : Nat} {f : Nat → Int64} (ha : ws[q0]? = some (a, .inl (cA, n, .inr (.inl f)))) (ht : tys[t0]? = some (cA, .long)) {i : Int32} (k : Nat) (hi : i = nI k) (hk : k < n) (hn : n < 2 ^ 31) (hdg : decode cc pc = .ok (.laload, 1))
    (kk : W p l e R s m args below meth c H locs cells slots Q (F0 m (pc + 1) ls (.long (f k) :: rest))) : W p l e R s m args below meth c H locs cells slots Q (F0 m pc ls (.int i :: .ref a :: rest)) := by
  subst hi
  refine va_lald hexec hb hK hP q0 t0 ha ht (vp_in_nI hk hn) hdg ?_
  rw [nI_clamp (by omega)]
  exact kk
theorem zz_iald (hexec : p.tables.exec = Jvm.exec) (hb : c.code = cc) (hK : va_K D cl tys s) (hP : va_P D cl ws H) (q0 t0 : Nat) {cA : ClassId} {n : Nat} {f : Nat → Int32} (ha : ws[q0]? = some (a, .inl (cA, n, .inl f))) (ht : tys[t0]? = some (cA, .int)) {i : Int32} (k : Nat) (hi : i = nI k) (hk : k < n) (hn : n < 2 ^ 31) (hdg : decode cc pc = .ok (.iaload, 1))
    (kk : W p l e R s m args below meth c H locs cells slots Q (F0 m (pc + 1) ls (.int (f k) :: rest))) : W p l e R s m args below meth c H locs cells slots Q (F0 m pc ls (.int i :: .ref a :: rest)) := by
  subst hi
  refine va_iald hexec hb hK hP q0 t0 ha ht (vp_in_nI hk hn) hdg ?_
  rw [nI_clamp (by omega)]
  exact kk
theorem zz_bald (hexec : p.tables.exec = Jvm.exec) (hb : c.code = cc) (hK : va_K D cl tys s) (hP : va_P D cl ws H) (q0 t0 : Nat) {cA : ClassId} {n : Nat} {f : Nat → Int32} (ha : ws[q0]? = some (a, .inl (cA, n, .inl f))) (ht : tys[t0]? = some (cA, .byte)) {i : Int32} (k : Nat) (hi : i = nI k) (hk : k < n) (hn : n < 2 ^ 31) (hdg : decode cc pc = .ok (.baload, 1))
    (kk : W p l e R s m args below meth c H locs cells slots Q (F0 m (pc + 1) ls (.int (f k) :: rest))) : W p l e R s m args below meth c H locs cells slots Q (F0 m pc ls (.int i :: .ref a :: rest)) := by
  subst hi
  refine va_bald hexec hb hK hP q0 t0 ha ht (vp_in_nI hk hn) hdg ?_
  rw [nI_clamp (by omega)]
  exact kk
theorem zz_zald (hexec : p.tables.exec = Jvm.exec) (hb : c.code = cc) (hK : va_K D cl tys s) (hP : va_P D cl ws H) (q0 t0 : Nat) {cA : ClassId} {n : Nat} {f : Nat → Int32} (ha : ws[q0]? = some (a, .inl (cA, n, .inl f))) (ht : tys[t0]? = some (cA, .boolean)) {i : Int32} (k : Nat) (hi : i = nI k) (hk : k < n) (hn : n < 2 ^ 31) (hdg : decode cc pc = .ok (.baload, 1))
    (kk : W p l e R s m args below meth c H locs cells slots Q (F0 m (pc + 1) ls (.int (f k) :: rest))) : W p l e R s m args below meth c H locs cells slots Q (F0 m pc ls (.int i :: .ref a :: rest)) := by
  subst hi
  refine va_zald hexec hb hK hP q0 t0 ha ht (vp_in_nI hk hn) hdg ?_
  rw [nI_clamp (by omega)]
  exact kk
theorem zz_aald (hexec : p.tables.exec = Jvm.exec) (hb : c.code = cc) (hK : va_K D cl tys s) (hP : va_P D cl ws H) (q0 t0 : Nat) {cA : ClassId} {C : String} {n : Nat} {f : Nat → Option Nat} (ha : ws[q0]? = some (a, .inl (cA, n, .inr (.inr (.inr (.inr f)))))) (ht : tys[t0]? = some (cA, .object C)) {i : Int32} (k : Nat) (hi : i = nI k) (hk : k < n) (hn : n < 2 ^ 31) {b : Nat} (hf : f k = some b) (hdg : decode cc pc = .ok (.aaload, 1))
    (kk : W p l e R s m args below meth c H locs cells slots Q (F0 m (pc + 1) ls (.ref b :: rest))) : W p l e R s m args below meth c H locs cells slots Q (F0 m pc ls (.int i :: .ref a :: rest)) := by
  subst hi
  refine va_aldq hexec hb hK hP q0 t0 ha ht (vp_in_nI hk hn) hdg ?_
  rw [nI_clamp (by omega), hf]
  exact kk
theorem zz_Pmem {w' : va_W} (hP : va_P D cl ws H) (h : ∀ q ∈ w', q ∈ ws) : va_P D cl w' H := by
  intro k q hk
  obtain ⟨i, hi⟩ := List.getElem?_of_mem (h q (List.mem_of_getElem? hk))
  exact hP i q hi
end ZZ
section ZB
variable {p : Program} {l : Launch} {e : Env} {R : Room} {s : State} {m : MethodId} {args : Array Value} {below : List Frame} {meth : Method} {c : Code} {H : Heap} {locs : List Loc} {cells slots : Nat} {Q : State → Prop}
variable {cc : ByteArray} {pc : Nat} {ls : Array Slot} {rest : List Value}
theorem zz_llt (hexec : p.tables.exec = Jvm.exec) (hb : c.code = cc) {x y : Int64} {off : Int} {tgt : Nat} (hd1 : decode cc pc = .ok (.lcmp, 1)) (hd2 : decode cc (pc + 1) = .ok (.ifCond .lt off, 3)) (ht : ((pc + 1 : Nat) : Int) + off = (tgt : Int))
    (kt : x < y → W p l e R s m args below meth c H locs cells slots Q (F0 m tgt ls rest)) (kf : ¬ x < y → W p l e R s m args below meth c H locs cells slots Q (F0 m (pc + 1 + 3) ls rest)) : W p l e R s m args below meth c H locs cells slots Q (F0 m pc ls (.long y :: .long x :: rest)) :=
  W.lcmp hexec hb hd1 (lv_if_lt hexec hb hd2 ht (fun h => kt ((lg_cmp_lt x y).mp h)) (fun h => kf (fun q => h ((lg_cmp_lt x y).mpr q))))
theorem zz_lge (hexec : p.tables.exec = Jvm.exec) (hb : c.code = cc) {x y : Int64} {off : Int} {tgt : Nat} (hd1 : decode cc pc = .ok (.lcmp, 1)) (hd2 : decode cc (pc + 1) = .ok (.ifCond .ge off, 3)) (ht : ((pc + 1 : Nat) : Int) + off = (tgt : Int))
    (kt : ¬ x < y → W p l e R s m args below meth c H locs cells slots Q (F0 m tgt ls rest)) (kf : x < y → W p l e R s m args below meth c H locs cells slots Q (F0 m (pc + 1 + 3) ls rest)) : W p l e R s m args below meth c H locs cells slots Q (F0 m pc ls (.long y :: .long x :: rest)) :=
  W.lcmp hexec hb hd1 (lv_if_ge hexec hb hd2 ht (fun h => kt (Int64.not_lt.mpr ((lg_cmp_ge x y).mp h))) (fun h => kf (Int64.not_le.mp (fun q => h ((lg_cmp_ge x y).mpr q)))))
theorem zz_lgt (hexec : p.tables.exec = Jvm.exec) (hb : c.code = cc) {x y : Int64} {off : Int} {tgt : Nat} (hd1 : decode cc pc = .ok (.lcmp, 1)) (hd2 : decode cc (pc + 1) = .ok (.ifCond .gt off, 3)) (ht : ((pc + 1 : Nat) : Int) + off = (tgt : Int))
    (kt : y < x → W p l e R s m args below meth c H locs cells slots Q (F0 m tgt ls rest)) (kf : ¬ y < x → W p l e R s m args below meth c H locs cells slots Q (F0 m (pc + 1 + 3) ls rest)) : W p l e R s m args below meth c H locs cells slots Q (F0 m pc ls (.long y :: .long x :: rest)) :=
  W.lcmp hexec hb hd1 (lv_if_gt hexec hb hd2 ht (fun h => kt ((lg_cmp_gt x y).mp h)) (fun h => kf (fun q => h ((lg_cmp_gt x y).mpr q))))
theorem zz_lle (hexec : p.tables.exec = Jvm.exec) (hb : c.code = cc) {x y : Int64} {off : Int} {tgt : Nat} (hd1 : decode cc pc = .ok (.lcmp, 1)) (hd2 : decode cc (pc + 1) = .ok (.ifCond .le off, 3)) (ht : ((pc + 1 : Nat) : Int) + off = (tgt : Int))
    (kt : ¬ y < x → W p l e R s m args below meth c H locs cells slots Q (F0 m tgt ls rest)) (kf : y < x → W p l e R s m args below meth c H locs cells slots Q (F0 m (pc + 1 + 3) ls rest)) : W p l e R s m args below meth c H locs cells slots Q (F0 m pc ls (.long y :: .long x :: rest)) :=
  W.lcmp hexec hb hd1 (lv_if_le hexec hb hd2 ht (fun h => kt (Int64.not_lt.mpr ((lg_cmp_le x y).mp h))) (fun h => kf (Int64.not_le.mp (fun q => h ((lg_cmp_le x y).mpr q)))))
theorem zz_leq (hexec : p.tables.exec = Jvm.exec) (hb : c.code = cc) {x y : Int64} {off : Int} {tgt : Nat} (hd1 : decode cc pc = .ok (.lcmp, 1)) (hd2 : decode cc (pc + 1) = .ok (.ifCond .eq off, 3)) (ht : ((pc + 1 : Nat) : Int) + off = (tgt : Int))
    (kt : x = y → W p l e R s m args below meth c H locs cells slots Q (F0 m tgt ls rest)) (kf : ¬ x = y → W p l e R s m args below meth c H locs cells slots Q (F0 m (pc + 1 + 3) ls rest)) : W p l e R s m args below meth c H locs cells slots Q (F0 m pc ls (.long y :: .long x :: rest)) :=
  W.lcmp hexec hb hd1 (lv_if_eq hexec hb hd2 ht (fun h => kt ((lg_cmp_eq x y).mp h)) (fun h => kf (fun q => h ((lg_cmp_eq x y).mpr q))))
theorem zz_lne (hexec : p.tables.exec = Jvm.exec) (hb : c.code = cc) {x y : Int64} {off : Int} {tgt : Nat} (hd1 : decode cc pc = .ok (.lcmp, 1)) (hd2 : decode cc (pc + 1) = .ok (.ifCond .ne off, 3)) (ht : ((pc + 1 : Nat) : Int) + off = (tgt : Int))
    (kt : ¬ x = y → W p l e R s m args below meth c H locs cells slots Q (F0 m tgt ls rest)) (kf : x = y → W p l e R s m args below meth c H locs cells slots Q (F0 m (pc + 1 + 3) ls rest)) : W p l e R s m args below meth c H locs cells slots Q (F0 m pc ls (.long y :: .long x :: rest)) :=
  W.lcmp hexec hb hd1 (lv_if_ne hexec hb hd2 ht (fun h => kt (fun q => h ((lg_cmp_eq x y).mpr q))) (fun h => kf ((lg_cmp_eq x y).mp h)))
theorem zz_ige (hexec : p.tables.exec = Jvm.exec) (hb : c.code = cc) {x y : Int32} {off : Int} {tgt : Nat} (hd : decode cc pc = .ok (.if_icmp .ge off, 3)) (ht : (pc : Int) + off = (tgt : Int))
    (kt : ¬ x < y → W p l e R s m args below meth c H locs cells slots Q (F0 m tgt ls rest)) (kf : x < y → W p l e R s m args below meth c H locs cells slots Q (F0 m (pc + 3) ls rest)) : W p l e R s m args below meth c H locs cells slots Q (F0 m pc ls (.int y :: .int x :: rest)) :=
  lv_icmp_ge hexec hb hd ht (fun h => kt (Int32.not_lt.mpr h)) (fun h => kf (Int32.not_le.mp h))
theorem zz_ile (hexec : p.tables.exec = Jvm.exec) (hb : c.code = cc) {x y : Int32} {off : Int} {tgt : Nat} (hd : decode cc pc = .ok (.if_icmp .le off, 3)) (ht : (pc : Int) + off = (tgt : Int))
    (kt : ¬ y < x → W p l e R s m args below meth c H locs cells slots Q (F0 m tgt ls rest)) (kf : y < x → W p l e R s m args below meth c H locs cells slots Q (F0 m (pc + 3) ls rest)) : W p l e R s m args below meth c H locs cells slots Q (F0 m pc ls (.int y :: .int x :: rest)) :=
  lv_icmp_le hexec hb hd ht (fun h => kt (Int32.not_lt.mpr h)) (fun h => kf (Int32.not_le.mp h))
theorem zz_ilt (hexec : p.tables.exec = Jvm.exec) (hb : c.code = cc) {x y : Int32} {off : Int} {tgt : Nat} (hd : decode cc pc = .ok (.if_icmp .lt off, 3)) (ht : (pc : Int) + off = (tgt : Int))
    (kt : x < y → W p l e R s m args below meth c H locs cells slots Q (F0 m tgt ls rest)) (kf : ¬ x < y → W p l e R s m args below meth c H locs cells slots Q (F0 m (pc + 3) ls rest)) : W p l e R s m args below meth c H locs cells slots Q (F0 m pc ls (.int y :: .int x :: rest)) :=
  lv_icmp_lt hexec hb hd ht (fun h => kt (h)) (fun h => kf (h))
theorem zz_igt (hexec : p.tables.exec = Jvm.exec) (hb : c.code = cc) {x y : Int32} {off : Int} {tgt : Nat} (hd : decode cc pc = .ok (.if_icmp .gt off, 3)) (ht : (pc : Int) + off = (tgt : Int))
    (kt : y < x → W p l e R s m args below meth c H locs cells slots Q (F0 m tgt ls rest)) (kf : ¬ y < x → W p l e R s m args below meth c H locs cells slots Q (F0 m (pc + 3) ls rest)) : W p l e R s m args below meth c H locs cells slots Q (F0 m pc ls (.int y :: .int x :: rest)) :=
  lv_icmp_gt hexec hb hd ht (fun h => kt (h)) (fun h => kf (h))
theorem zz_ieq (hexec : p.tables.exec = Jvm.exec) (hb : c.code = cc) {x y : Int32} {off : Int} {tgt : Nat} (hd : decode cc pc = .ok (.if_icmp .eq off, 3)) (ht : (pc : Int) + off = (tgt : Int))
    (kt : x = y → W p l e R s m args below meth c H locs cells slots Q (F0 m tgt ls rest)) (kf : ¬ x = y → W p l e R s m args below meth c H locs cells slots Q (F0 m (pc + 3) ls rest)) : W p l e R s m args below meth c H locs cells slots Q (F0 m pc ls (.int y :: .int x :: rest)) :=
  lv_icmp_eq hexec hb hd ht (fun h => kt (h)) (fun h => kf (h))
theorem zz_ine (hexec : p.tables.exec = Jvm.exec) (hb : c.code = cc) {x y : Int32} {off : Int} {tgt : Nat} (hd : decode cc pc = .ok (.if_icmp .ne off, 3)) (ht : (pc : Int) + off = (tgt : Int))
    (kt : ¬ x = y → W p l e R s m args below meth c H locs cells slots Q (F0 m tgt ls rest)) (kf : x = y → W p l e R s m args below meth c H locs cells slots Q (F0 m (pc + 3) ls rest)) : W p l e R s m args below meth c H locs cells slots Q (F0 m pc ls (.int y :: .int x :: rest)) :=
  lv_icmp_ne hexec hb hd ht (fun h => kt (h)) (fun h => kf (h))
theorem zz_zge (hexec : p.tables.exec = Jvm.exec) (hb : c.code = cc) {x : Int32} {off : Int} {tgt : Nat} (hd : decode cc pc = .ok (.ifCond .ge off, 3)) (ht : (pc : Int) + off = (tgt : Int))
    (kt : ¬ x < 0 → W p l e R s m args below meth c H locs cells slots Q (F0 m tgt ls rest)) (kf : x < 0 → W p l e R s m args below meth c H locs cells slots Q (F0 m (pc + 3) ls rest)) : W p l e R s m args below meth c H locs cells slots Q (F0 m pc ls (.int x :: rest)) :=
  lv_if_ge hexec hb hd ht (fun h => kt (Int32.not_lt.mpr h)) (fun h => kf (Int32.not_le.mp h))
theorem zz_zle (hexec : p.tables.exec = Jvm.exec) (hb : c.code = cc) {x : Int32} {off : Int} {tgt : Nat} (hd : decode cc pc = .ok (.ifCond .le off, 3)) (ht : (pc : Int) + off = (tgt : Int))
    (kt : ¬ 0 < x → W p l e R s m args below meth c H locs cells slots Q (F0 m tgt ls rest)) (kf : 0 < x → W p l e R s m args below meth c H locs cells slots Q (F0 m (pc + 3) ls rest)) : W p l e R s m args below meth c H locs cells slots Q (F0 m pc ls (.int x :: rest)) :=
  lv_if_le hexec hb hd ht (fun h => kt (Int32.not_lt.mpr h)) (fun h => kf (Int32.not_le.mp h))
theorem zz_zlt (hexec : p.tables.exec = Jvm.exec) (hb : c.code = cc) {x : Int32} {off : Int} {tgt : Nat} (hd : decode cc pc = .ok (.ifCond .lt off, 3)) (ht : (pc : Int) + off = (tgt : Int))
    (kt : x < 0 → W p l e R s m args below meth c H locs cells slots Q (F0 m tgt ls rest)) (kf : ¬ x < 0 → W p l e R s m args below meth c H locs cells slots Q (F0 m (pc + 3) ls rest)) : W p l e R s m args below meth c H locs cells slots Q (F0 m pc ls (.int x :: rest)) :=
  lv_if_lt hexec hb hd ht (fun h => kt (h)) (fun h => kf (h))
theorem zz_zgt (hexec : p.tables.exec = Jvm.exec) (hb : c.code = cc) {x : Int32} {off : Int} {tgt : Nat} (hd : decode cc pc = .ok (.ifCond .gt off, 3)) (ht : (pc : Int) + off = (tgt : Int))
    (kt : 0 < x → W p l e R s m args below meth c H locs cells slots Q (F0 m tgt ls rest)) (kf : ¬ 0 < x → W p l e R s m args below meth c H locs cells slots Q (F0 m (pc + 3) ls rest)) : W p l e R s m args below meth c H locs cells slots Q (F0 m pc ls (.int x :: rest)) :=
  lv_if_gt hexec hb hd ht (fun h => kt (h)) (fun h => kf (h))
theorem zz_zeq (hexec : p.tables.exec = Jvm.exec) (hb : c.code = cc) {x : Int32} {off : Int} {tgt : Nat} (hd : decode cc pc = .ok (.ifCond .eq off, 3)) (ht : (pc : Int) + off = (tgt : Int))
    (kt : x = 0 → W p l e R s m args below meth c H locs cells slots Q (F0 m tgt ls rest)) (kf : ¬ x = 0 → W p l e R s m args below meth c H locs cells slots Q (F0 m (pc + 3) ls rest)) : W p l e R s m args below meth c H locs cells slots Q (F0 m pc ls (.int x :: rest)) :=
  lv_if_eq hexec hb hd ht (fun h => kt (h)) (fun h => kf (h))
theorem zz_zne (hexec : p.tables.exec = Jvm.exec) (hb : c.code = cc) {x : Int32} {off : Int} {tgt : Nat} (hd : decode cc pc = .ok (.ifCond .ne off, 3)) (ht : (pc : Int) + off = (tgt : Int))
    (kt : ¬ x = 0 → W p l e R s m args below meth c H locs cells slots Q (F0 m tgt ls rest)) (kf : x = 0 → W p l e R s m args below meth c H locs cells slots Q (F0 m (pc + 3) ls rest)) : W p l e R s m args below meth c H locs cells slots Q (F0 m pc ls (.int x :: rest)) :=
  lv_if_ne hexec hb hd ht (fun h => kt (h)) (fun h => kf (h))
end ZB
theorem zz_ltN {a b : Nat} {x y : Int32} (hx : x = nI a) (hy : y = nI b) (ha : a < 2 ^ 31) (hb : b < 2 ^ 31) : x < y ↔ a < b := by
  rw [hx, hy]
  exact nI_ltI ha hb
theorem zz_eqN {a b : Nat} {x y : Int32} (hx : x = nI a) (hy : y = nI b) (ha : a < 2 ^ 31) (hb : b < 2 ^ 31) : x = y ↔ a = b := by
  rw [hx, hy]
  exact nI_eq ha hb
section ZC
variable {R : Room} {s : State} {args : Array Value} {own C : String} {index maxL n : Nat} {y : MethodName} {bytes : ByteArray} {ret : Option FieldType} {rm : Room}
/-- what the tables say of a method that is called: its code, its class is initialised, it has n parameters -/
def zt_M (y : MethodName) (bytes : ByteArray) (maxL : Nat) (ret : Option FieldType) (n : Nat) : Prop := Cond.code y bytes maxL ret ∈ lw_tbl ∧ Cond.initialized y.cls ∈ lw_tbl ∧ y.cls ≠ "java/lang/invoke/MethodHandle" ∧ y.cls ≠ "java/lang/invoke/VarHandle" ∧ (parseMethodDescriptor y.desc).map (fun d => d.parameters.length) = some n
theorem zt_cb (hT : zt_TB s) (hm : zt_M y bytes maxL ret n) (hl : Cond.methodLink own index y ∈ lw_tbl) (hR : rm.frames + 1 ≤ R.frames ∧ 8 + (maxL + 11) + rm.locals ≤ R.locals) : CallB R s args own index y bytes maxL ret [Cond.code y bytes maxL ret] rm rm.cells rm.slots n := by
  obtain ⟨h1, h2, h3, h4, h5⟩ := hm
  refine ⟨rfl, rfl, hR.1, hR.2, ?_, List.mem_cons_self, hT.w h1, hT.w h2, ⟨h3, h4⟩, fun sig h => ?_, hT.w hl⟩
  · intro w hw a' U hW
    have hw9 : w = Cond.code y bytes maxL ret := by simpa using hw
    subst hw9
    exact (hT.moved hW).w h1
  · rw [h] at h5
    exact (Option.some.inj h5).symm
theorem zt_cv (hT : zt_TB s) (hm : zt_M y bytes maxL ret n) (hv : Cond.instanceMethod y ∈ lw_tbl ∧ Cond.selects y.cls y y ∈ lw_tbl) (hl : Cond.methodLink own index y ∈ lw_tbl) (hR : rm.frames + 1 ≤ R.frames ∧ 8 + (maxL + 11) + rm.locals ≤ R.locals) : CallW R s args own y.cls index y bytes maxL ret [Cond.code y bytes maxL ret] rm rm.cells rm.slots n :=
  ⟨zt_cb hT hm hl hR, hT.w hv.1, hT.w hv.2⟩
theorem zt_cs (hT : zt_TB s) (hm : zt_M y bytes maxL ret n) (hv : Cond.static y ∈ lw_tbl) (hl : Cond.methodLink own index y ∈ lw_tbl) (hR : rm.frames + 1 ≤ R.frames ∧ 8 + (maxL + 11) + rm.locals ≤ R.locals) : CallB R s args own index y bytes maxL ret [Cond.code y bytes maxL ret] rm rm.cells rm.slots n ∧ (Cond.static y).before args s = true :=
  ⟨zt_cb hT hm hl hR, hT.w hv⟩
end ZC
abbrev zz_T (cJ cI cB cZ cS : ClassId) : List (ClassId × FieldType) := [(cJ, .long), (cI, .int), (cB, .byte), (cZ, .boolean), (cS, .object "StrataClient$Server")]
theorem zz_pre0 {s : State} {H : Heap} {As : List Value} (hT : zt_TB s) : PreS s H (va_Pc As zt_TB) As :=
  ⟨fun a U g mk q => ⟨q.1, zt_TB.moved (s := U) (U := U.calling g mk a) (State.WarmedH.refl U) q.2⟩, fun U hU hW => ⟨rfl, hT.moved hW⟩⟩
end
section
/-! Fields by class, calls by method -/
theorem zi_P : ∀ w ∈ u_ws RP TP 1, w ∈ lw_tbl := by decide +kernel
theorem zg_P : (u_ws RP TP 1).all goodWord = true := by decide +kernel
theorem zi_S : ∀ w ∈ u_ws RS TS 12, w ∈ lw_tbl := by decide +kernel
theorem zg_S : (u_ws RS TS 12).all goodWord = true := by decide +kernel
theorem zi_V : ∀ w ∈ u_ws RV TV 6, w ∈ lw_tbl := by decide +kernel
theorem zg_V : (u_ws RV TV 6).all goodWord = true := by decide +kernel
theorem zi_C : ∀ w ∈ u_ws RC TC 6, w ∈ lw_tbl := by decide +kernel
theorem zg_C : (u_ws RC TC 6).all goodWord = true := by decide +kernel
theorem zi_M : ∀ w ∈ u_ws RM TM 20, w ∈ lw_tbl := by decide +kernel
theorem zg_M : (u_ws RM TM 20).all goodWord = true := by decide +kernel
section ZF
variable {p : Program} {l : Launch} {e : Env} {R : Room} {s : State} {m : MethodId} {args : Array Value} {below : List Frame} {meth : Method} {c : Code} {H H0 : Heap} {locs : List Loc} {cells slots : Nat} {Q : State → Prop} {A : Nat → Prop}
variable {cc : ByteArray} {pc index q0 a : Nat} {ls : Array Slot} {rest : List Value} {D : va_G} {tys : List (ClassId × FieldType)} {ws : va_W} {fs : List Value} {own : String} {v : Value}
theorem zz_getP (hexec : p.tables.exec = Jvm.exec) (hb : c.code = cc) (hT : zt_TB s) (hown : s.vm.findClass own = some m.cls) (hK : va_K D vcl tys s) (hP : va_P D vcl ws H) (q0 : Nat) (he : ws[q0]? = some (a, .inr (0, fs))) (k : Nat) (hk : k < 1) (hl : Cond.fieldLink own index (TP k).1 (TP k).2.1 (TP k).2.2.1 ∈ lw_tbl) (hv : fs[k]? = some v) (hdg : decode cc pc = .ok (.getfield index, 3))
    (kk : W p l e R s m args below meth c H locs cells slots Q (F0 m (pc + 3) ls (v :: rest))) : W p l e R s m args below meth c H locs cells slots Q (F0 m pc ls (.ref a :: rest)) :=
  va_get (C := RP) (T := TP) (N := 1) hexec hb (hT.ws zi_P zg_P) (fun _ h => h) hown hK hP q0 he rfl k hk (hT.w hl) (fun _ h => h) hv hdg kk
theorem zz_putP (hexec : p.tables.exec = Jvm.exec) (hb : c.code = cc) (hT : zt_TB s) (hown : s.vm.findClass own = some m.cls) (hK : va_K D vcl tys s) (hP : va_P D vcl ws H) (hD : va_D A ws) (hS : va_S A H0 H locs) (q0 : Nat) (he : ws[q0]? = some (a, .inr (0, fs))) (k : Nat) (hk : k < 1) (hl : Cond.fieldLink own index (TP k).1 (TP k).2.1 (TP k).2.2.1 ∈ lw_tbl) (hfin : (TP k).2.2.2 = false) {ty : FieldType} (hd : parseFieldDescriptor (TP k).2.2.1 = some ty) (hn : narrow ty v = v) (hfit : fits ty v = true) (hln : k < fs.length) (hdg : decode cc pc = .ok (.putfield index, 3))
    (kk : ∀ (H1 : Heap) (locs1 : List Loc), va_P D vcl (ws.set q0 (a, .inr (0, fs.set k v))) H1 → va_D A (ws.set q0 (a, .inr (0, fs.set k v))) → va_S A H0 H1 locs1 → W p l e R s m args below meth c H1 locs1 cells slots Q (F0 m (pc + 3) ls rest)) : W p l e R s m args below meth c H locs cells slots Q (F0 m pc ls (v :: .ref a :: rest)) :=
  va_put (C := RP) (T := TP) (N := 1) hexec hb (hT.ws zi_P zg_P) (fun _ h => h) tyP tyP_ok nmP hown hK hP hD hS q0 he rfl k hk (hT.w hl) (fun _ h => h) hfin hd hn hfit hln hdg kk
theorem zz_getS (hexec : p.tables.exec = Jvm.exec) (hb : c.code = cc) (hT : zt_TB s) (hown : s.vm.findClass own = some m.cls) (hK : va_K D vcl tys s) (hP : va_P D vcl ws H) (q0 : Nat) (he : ws[q0]? = some (a, .inr (1, fs))) (k : Nat) (hk : k < 12) (hl : Cond.fieldLink own index (TS k).1 (TS k).2.1 (TS k).2.2.1 ∈ lw_tbl) (hv : fs[k]? = some v) (hdg : decode cc pc = .ok (.getfield index, 3))
    (kk : W p l e R s m args below meth c H locs cells slots Q (F0 m (pc + 3) ls (v :: rest))) : W p l e R s m args below meth c H locs cells slots Q (F0 m pc ls (.ref a :: rest)) :=
  va_get (C := RS) (T := TS) (N := 12) hexec hb (hT.ws zi_S zg_S) (fun _ h => h) hown hK hP q0 he rfl k hk (hT.w hl) (fun _ h => h) hv hdg kk
theorem zz_putS (hexec : p.tables.exec = Jvm.exec) (hb : c.code = cc) (hT : zt_TB s) (hown : s.vm.findClass own = some m.cls) (hK : va_K D vcl tys s) (hP : va_P D vcl ws H) (hD : va_D A ws) (hS : va_S A H0 H locs) (q0 : Nat) (he : ws[q0]? = some (a, .inr (1, fs))) (k : Nat) (hk : k < 12) (hl : Cond.fieldLink own index (TS k).1 (TS k).2.1 (TS k).2.2.1 ∈ lw_tbl) (hfin : (TS k).2.2.2 = false) {ty : FieldType} (hd : parseFieldDescriptor (TS k).2.2.1 = some ty) (hn : narrow ty v = v) (hfit : fits ty v = true) (hln : k < fs.length) (hdg : decode cc pc = .ok (.putfield index, 3))
    (kk : ∀ (H1 : Heap) (locs1 : List Loc), va_P D vcl (ws.set q0 (a, .inr (1, fs.set k v))) H1 → va_D A (ws.set q0 (a, .inr (1, fs.set k v))) → va_S A H0 H1 locs1 → W p l e R s m args below meth c H1 locs1 cells slots Q (F0 m (pc + 3) ls rest)) : W p l e R s m args below meth c H locs cells slots Q (F0 m pc ls (v :: .ref a :: rest)) :=
  va_put (C := RS) (T := TS) (N := 12) hexec hb (hT.ws zi_S zg_S) (fun _ h => h) tyS tyS_ok nmS hown hK hP hD hS q0 he rfl k hk (hT.w hl) (fun _ h => h) hfin hd hn hfit hln hdg kk
theorem zz_getV (hexec : p.tables.exec = Jvm.exec) (hb : c.code = cc) (hT : zt_TB s) (hown : s.vm.findClass own = some m.cls) (hK : va_K D vcl tys s) (hP : va_P D vcl ws H) (q0 : Nat) (he : ws[q0]? = some (a, .inr (2, fs))) (k : Nat) (hk : k < 6) (hl : Cond.fieldLink own index (TV k).1 (TV k).2.1 (TV k).2.2.1 ∈ lw_tbl) (hv : fs[k]? = some v) (hdg : decode cc pc = .ok (.getfield index, 3))
    (kk : W p l e R s m args below meth c H locs cells slots Q (F0 m (pc + 3) ls (v :: rest))) : W p l e R s m args below meth c H locs cells slots Q (F0 m pc ls (.ref a :: rest)) :=
  va_get (C := RV) (T := TV) (N := 6) hexec hb (hT.ws zi_V zg_V) (fun _ h => h) hown hK hP q0 he rfl k hk (hT.w hl) (fun _ h => h) hv hdg kk
theorem zz_putV (hexec : p.tables.exec = Jvm.exec) (hb : c.code = cc) (hT : zt_TB s) (hown : s.vm.findClass own = some m.cls) (hK : va_K D vcl tys s) (hP : va_P D vcl ws H) (hD : va_D A ws) (hS : va_S A H0 H locs) (q0 : Nat) (he : ws[q0]? = some (a, .inr (2, fs))) (k : Nat) (hk : k < 6) (hl : Cond.fieldLink own index (TV k).1 (TV k).2.1 (TV k).2.2.1 ∈ lw_tbl) (hfin : (TV k).2.2.2 = false) {ty : FieldType} (hd : parseFieldDescriptor (TV k).2.2.1 = some ty) (hn : narrow ty v = v) (hfit : fits ty v = true) (hln : k < fs.length) (hdg : decode cc pc = .ok (.putfield index, 3))
    (kk : ∀ (H1 : Heap) (locs1 : List Loc), va_P D vcl (ws.set q0 (a, .inr (2, fs.set k v))) H1 → va_D A (ws.set q0 (a, .inr (2, fs.set k v))) → va_S A H0 H1 locs1 → W p l e R s m args below meth c H1 locs1 cells slots Q (F0 m (pc + 3) ls rest)) : W p l e R s m args below meth c H locs cells slots Q (F0 m pc ls (v :: .ref a :: rest)) :=
  va_put (C := RV) (T := TV) (N := 6) hexec hb (hT.ws zi_V zg_V) (fun _ h => h) tyV tyV_ok nmV hown hK hP hD hS q0 he rfl k hk (hT.w hl) (fun _ h => h) hfin hd hn hfit hln hdg kk
theorem zz_getC (hexec : p.tables.exec = Jvm.exec) (hb : c.code = cc) (hT : zt_TB s) (hown : s.vm.findClass own = some m.cls) (hK : va_K D vcl tys s) (hP : va_P D vcl ws H) (q0 : Nat) (he : ws[q0]? = some (a, .inr (3, fs))) (k : Nat) (hk : k < 6) (hl : Cond.fieldLink own index (TC k).1 (TC k).2.1 (TC k).2.2.1 ∈ lw_tbl) (hv : fs[k]? = some v) (hdg : decode cc pc = .ok (.getfield index, 3))
    (kk : W p l e R s m args below meth c H locs cells slots Q (F0 m (pc + 3) ls (v :: rest))) : W p l e R s m args below meth c H locs cells slots Q (F0 m pc ls (.ref a :: rest)) :=
  va_get (C := RC) (T := TC) (N := 6) hexec hb (hT.ws zi_C zg_C) (fun _ h => h) hown hK hP q0 he rfl k hk (hT.w hl) (fun _ h => h) hv hdg kk
theorem zz_putC (hexec : p.tables.exec = Jvm.exec) (hb : c.code = cc) (hT : zt_TB s) (hown : s.vm.findClass own = some m.cls) (hK : va_K D vcl tys s) (hP : va_P D vcl ws H) (hD : va_D A ws) (hS : va_S A H0 H locs) (q0 : Nat) (he : ws[q0]? = some (a, .inr (3, fs))) (k : Nat) (hk : k < 6) (hl : Cond.fieldLink own index (TC k).1 (TC k).2.1 (TC k).2.2.1 ∈ lw_tbl) (hfin : (TC k).2.2.2 = false) {ty : FieldType} (hd : parseFieldDescriptor (TC k).2.2.1 = some ty) (hn : narrow ty v = v) (hfit : fits ty v = true) (hln : k < fs.length) (hdg : decode cc pc = .ok (.putfield index, 3))
    (kk : ∀ (H1 : Heap) (locs1 : List Loc), va_P D vcl (ws.set q0 (a, .inr (3, fs.set k v))) H1 → va_D A (ws.set q0 (a, .inr (3, fs.set k v))) → va_S A H0 H1 locs1 → W p l e R s m args below meth c H1 locs1 cells slots Q (F0 m (pc + 3) ls rest)) : W p l e R s m args below meth c H locs cells slots Q (F0 m pc ls (v :: .ref a :: rest)) :=
  va_put (C := RC) (T := TC) (N := 6) hexec hb (hT.ws zi_C zg_C) (fun _ h => h) tyC tyC_ok nmC hown hK hP hD hS q0 he rfl k hk (hT.w hl) (fun _ h => h) hfin hd hn hfit hln hdg kk
theorem zz_getM (hexec : p.tables.exec = Jvm.exec) (hb : c.code = cc) (hT : zt_TB s) (hown : s.vm.findClass own = some m.cls) (hK : va_K D vcl tys s) (hP : va_P D vcl ws H) (q0 : Nat) (he : ws[q0]? = some (a, .inr (4, fs))) (k : Nat) (hk : k < 20) (hl : Cond.fieldLink own index (TM k).1 (TM k).2.1 (TM k).2.2.1 ∈ lw_tbl) (hv : fs[k]? = some v) (hdg : decode cc pc = .ok (.getfield index, 3))
    (kk : W p l e R s m args below meth c H locs cells slots Q (F0 m (pc + 3) ls (v :: rest))) : W p l e R s m args below meth c H locs cells slots Q (F0 m pc ls (.ref a :: rest)) :=
  va_get (C := RM) (T := TM) (N := 20) hexec hb (hT.ws zi_M zg_M) (fun _ h => h) hown hK hP q0 he rfl k hk (hT.w hl) (fun _ h => h) hv hdg kk
theorem zz_putM (hexec : p.tables.exec = Jvm.exec) (hb : c.code = cc) (hT : zt_TB s) (hown : s.vm.findClass own = some m.cls) (hK : va_K D vcl tys s) (hP : va_P D vcl ws H) (hD : va_D A ws) (hS : va_S A H0 H locs) (q0 : Nat) (he : ws[q0]? = some (a, .inr (4, fs))) (k : Nat) (hk : k < 20) (hl : Cond.fieldLink own index (TM k).1 (TM k).2.1 (TM k).2.2.1 ∈ lw_tbl) (hfin : (TM k).2.2.2 = false) {ty : FieldType} (hd : parseFieldDescriptor (TM k).2.2.1 = some ty) (hn : narrow ty v = v) (hfit : fits ty v = true) (hln : k < fs.length) (hdg : decode cc pc = .ok (.putfield index, 3))
    (kk : ∀ (H1 : Heap) (locs1 : List Loc), va_P D vcl (ws.set q0 (a, .inr (4, fs.set k v))) H1 → va_D A (ws.set q0 (a, .inr (4, fs.set k v))) → va_S A H0 H1 locs1 → W p l e R s m args below meth c H1 locs1 cells slots Q (F0 m (pc + 3) ls rest)) : W p l e R s m args below meth c H locs cells slots Q (F0 m pc ls (v :: .ref a :: rest)) :=
  va_put (C := RM) (T := TM) (N := 20) hexec hb (hT.ws zi_M zg_M) (fun _ h => h) tyM tyM_ok nmM hown hK hP hD hS q0 he rfl k hk (hT.w hl) (fun _ h => h) hfin hd hn hfit hln hdg kk
end ZF
theorem tc_C_init : zt_M yC_init cC_init 2 none 0 := ⟨tw_20, tw_1, by decide, by decide, by decide +kernel⟩
theorem tc_P_init : zt_M yP_init cP_init 1 none 0 := ⟨tw_28, tw_2, by decide, by decide, by decide +kernel⟩
theorem tc_S_init : zt_M yS_init cS_init 1 none 0 := ⟨tw_40, tw_3, by decide, by decide, by decide +kernel⟩
theorem tc_V_init : zt_M yV_init cV_init 1 none 0 := ⟨tw_94, tw_4, by decide, by decide, by decide +kernel⟩
theorem tc_C_local : zt_M yC_local cC_local 1 (some .long) 0 := ⟨tw_143, tw_1, by decide, by decide, by decide +kernel⟩
theorem tv_C_local : Cond.instanceMethod yC_local ∈ lw_tbl ∧ Cond.selects yC_local.cls yC_local yC_local ∈ lw_tbl := ⟨tw_141, tw_142⟩
theorem tc_C_slew : zt_M yC_slew cC_slew 1 (some .long) 0 := ⟨tw_147, tw_1, by decide, by decide, by decide +kernel⟩
theorem tv_C_slew : Cond.instanceMethod yC_slew ∈ lw_tbl ∧ Cond.selects yC_slew.cls yC_slew yC_slew ∈ lw_tbl := ⟨tw_145, tw_146⟩
theorem tc_C_candidates : zt_M yC_candidates cC_candidates 1 (some .int) 0 := ⟨tw_151, tw_1, by decide, by decide, by decide +kernel⟩
theorem tv_C_candidates : Cond.instanceMethod yC_candidates ∈ lw_tbl ∧ Cond.selects yC_candidates.cls yC_candidates yC_candidates ∈ lw_tbl := ⟨tw_149, tw_150⟩
theorem tc_V_hold : zt_M yV_hold cV_hold 4 none 2 := ⟨tw_155, tw_4, by decide, by decide, by decide +kernel⟩
theorem tv_V_hold : Cond.instanceMethod yV_hold ∈ lw_tbl ∧ Cond.selects yV_hold.cls yV_hold yV_hold ∈ lw_tbl := ⟨tw_153, tw_154⟩
theorem tc_V_findCandidates : zt_M yV_findCandidates cV_findCandidates 6 none 2 := ⟨tw_159, tw_4, by decide, by decide, by decide +kernel⟩
theorem tv_V_findCandidates : Cond.instanceMethod yV_findCandidates ∈ lw_tbl ∧ Cond.selects yV_findCandidates.cls yV_findCandidates yV_findCandidates ∈ lw_tbl := ⟨tw_158, zt_inp (i := 0) rfl⟩
theorem tc_S_bestOffset : zt_M yS_bestOffset cS_bestOffset 3 (some .long) 1 := ⟨tw_163, tw_3, by decide, by decide, by decide +kernel⟩
theorem tv_S_bestOffset : Cond.instanceMethod yS_bestOffset ∈ lw_tbl ∧ Cond.selects yS_bestOffset.cls yS_bestOffset yS_bestOffset ∈ lw_tbl := ⟨tw_161, tw_162⟩
theorem tc_S_bestAt : zt_M yS_bestAt cS_bestAt 5 (some .int) 1 := ⟨tw_167, tw_3, by decide, by decide, by decide +kernel⟩
theorem tv_S_bestAt : Cond.instanceMethod yS_bestAt ∈ lw_tbl ∧ Cond.selects yS_bestAt.cls yS_bestAt yS_bestAt ∈ lw_tbl := ⟨tw_166, zt_inp (i := 1) rfl⟩
theorem tc_S_distanceOf : zt_M yS_distanceOf cS_distanceOf 6 (some .long) 2 := ⟨tw_171, tw_3, by decide, by decide, by decide +kernel⟩
theorem tv_S_distanceOf : Cond.instanceMethod yS_distanceOf ∈ lw_tbl ∧ Cond.selects yS_distanceOf.cls yS_distanceOf yS_distanceOf ∈ lw_tbl := ⟨tw_170, zt_inp (i := 2) rfl⟩
theorem tc_J_floorDiv : zt_M yJ_floorDiv cJ_floorDiv 6 (some .long) 2 := ⟨tw_176, tw_10, by decide, by decide, by decide +kernel⟩
theorem ts_J_floorDiv : Cond.static yJ_floorDiv ∈ lw_tbl := tw_175
theorem tc_S_rootDistance : zt_M yS_rootDistance cS_rootDistance 4 (some .long) 1 := ⟨tw_180, tw_3, by decide, by decide, by decide +kernel⟩
theorem tv_S_rootDistance : Cond.instanceMethod yS_rootDistance ∈ lw_tbl ∧ Cond.selects yS_rootDistance.cls yS_rootDistance yS_rootDistance ∈ lw_tbl := ⟨tw_178, tw_179⟩
theorem tc_S_farthestFrom : zt_M yS_farthestFrom cS_farthestFrom 6 (some .long) 1 := ⟨tw_184, tw_3, by decide, by decide, by decide +kernel⟩
theorem tv_S_farthestFrom : Cond.instanceMethod yS_farthestFrom ∈ lw_tbl ∧ Cond.selects yS_farthestFrom.cls yS_farthestFrom yS_farthestFrom ∈ lw_tbl := ⟨tw_183, zt_inp (i := 3) rfl⟩
theorem tc_J_abs : zt_M yJ_abs cJ_abs 2 (some .long) 1 := ⟨tw_187, tw_10, by decide, by decide, by decide +kernel⟩
theorem ts_J_abs : Cond.static yJ_abs ∈ lw_tbl := tw_186
theorem tc_J_max_f86c : zt_M yJ_max_f86c cJ_max_f86c 4 (some .long) 2 := ⟨tw_190, tw_10, by decide, by decide, by decide +kernel⟩
theorem ts_J_max_f86c : Cond.static yJ_max_f86c ∈ lw_tbl := tw_189
theorem tc_V_findBounds : zt_M yV_findBounds cV_findBounds 6 none 0 := ⟨tw_195, tw_4, by decide, by decide, by decide +kernel⟩
theorem tv_V_findBounds : Cond.instanceMethod yV_findBounds ∈ lw_tbl ∧ Cond.selects yV_findBounds.cls yV_findBounds yV_findBounds ∈ lw_tbl := ⟨tw_194, zt_inp (i := 4) rfl⟩
theorem tc_V_has : zt_M yV_has cV_has 2 (some .boolean) 2 := ⟨tw_198, tw_4, by decide, by decide, by decide +kernel⟩
theorem ts_V_has : Cond.static yV_has ∈ lw_tbl := tw_197
theorem tc_V_isInMost : zt_M yV_isInMost cV_isInMost 5 (some .boolean) 1 := ⟨tw_202, tw_4, by decide, by decide, by decide +kernel⟩
theorem tv_V_isInMost : Cond.instanceMethod yV_isInMost ∈ lw_tbl ∧ Cond.selects yV_isInMost.cls yV_isInMost yV_isInMost ∈ lw_tbl := ⟨tw_201, zt_inp (i := 5) rfl⟩
theorem tc_I_bitCount : zt_M yI_bitCount cI_bitCount 1 (some .int) 1 := ⟨tw_206, tw_14, by decide, by decide, by decide +kernel⟩
theorem ts_I_bitCount : Cond.static yI_bitCount ∈ lw_tbl := tw_205
theorem tc_J_min_f86c : zt_M yJ_min_f86c cJ_min_f86c 4 (some .long) 2 := ⟨tw_212, tw_10, by decide, by decide, by decide +kernel⟩
theorem ts_J_min_f86c : Cond.static yJ_min_f86c ∈ lw_tbl := tw_211
theorem tc_V_findSurvivors : zt_M yV_findSurvivors cV_findSurvivors 2 none 0 := ⟨tw_217, tw_4, by decide, by decide, by decide +kernel⟩
theorem tv_V_findSurvivors : Cond.instanceMethod yV_findSurvivors ∈ lw_tbl ∧ Cond.selects yV_findSurvivors.cls yV_findSurvivors yV_findSurvivors ∈ lw_tbl := ⟨tw_216, zt_inp (i := 6) rfl⟩
theorem tc_V_findFarthest : zt_M yV_findFarthest cV_findFarthest 5 (some .int) 0 := ⟨tw_221, tw_4, by decide, by decide, by decide +kernel⟩
theorem tv_V_findFarthest : Cond.instanceMethod yV_findFarthest ∈ lw_tbl ∧ Cond.selects yV_findFarthest.cls yV_findFarthest yV_findFarthest ∈ lw_tbl := ⟨tw_220, zt_inp (i := 7) rfl⟩
theorem tc_V_spreadOf : zt_M yV_spreadOf cV_spreadOf 5 (some .long) 1 := ⟨tw_226, tw_4, by decide, by decide, by decide +kernel⟩
theorem tv_V_spreadOf : Cond.instanceMethod yV_spreadOf ∈ lw_tbl ∧ Cond.selects yV_spreadOf.cls yV_spreadOf yV_spreadOf ∈ lw_tbl := ⟨tw_225, zt_inp (i := 8) rfl⟩
theorem tc_C_survivors : zt_M yC_survivors cC_survivors 1 (some .int) 0 := ⟨tw_230, tw_1, by decide, by decide, by decide +kernel⟩
theorem tv_C_survivors : Cond.instanceMethod yC_survivors ∈ lw_tbl ∧ Cond.selects yC_survivors.cls yC_survivors yC_survivors ∈ lw_tbl := ⟨tw_228, tw_229⟩
theorem tc_C_run : zt_M yC_run cC_run 7 none 1 := ⟨tw_238, tw_1, by decide, by decide, by decide +kernel⟩
theorem tv_C_run : Cond.instanceMethod yC_run ∈ lw_tbl ∧ Cond.selects yC_run.cls yC_run yC_run ∈ lw_tbl := ⟨tw_236, tw_237⟩
theorem tc_C_put : zt_M yC_put cC_put 5 none 3 := ⟨tw_315, tw_1, by decide, by decide, by decide +kernel⟩
theorem tv_C_put : Cond.instanceMethod yC_put ∈ lw_tbl ∧ Cond.selects yC_put.cls yC_put yC_put ∈ lw_tbl := ⟨tw_313, tw_314⟩
theorem tc_P_write : zt_M yP_write cP_write 6 none 3 := ⟨tw_334, tw_2, by decide, by decide, by decide +kernel⟩
theorem tv_P_write : Cond.instanceMethod yP_write ∈ lw_tbl ∧ Cond.selects yP_write.cls yP_write yP_write ∈ lw_tbl := ⟨tw_332, tw_333⟩
theorem tc_C_echo : zt_M yC_echo cC_echo 7 none 3 := ⟨tw_342, tw_1, by decide, by decide, by decide +kernel⟩
theorem tv_C_echo : Cond.instanceMethod yC_echo ∈ lw_tbl ∧ Cond.selects yC_echo.cls yC_echo yC_echo ∈ lw_tbl := ⟨tw_340, tw_341⟩
theorem tc_C_serverAt : zt_M yC_serverAt cC_serverAt 2 (some (.object "StrataClient$Server")) 1 := ⟨tw_346, tw_1, by decide, by decide, by decide +kernel⟩
theorem tv_C_serverAt : Cond.instanceMethod yC_serverAt ∈ lw_tbl ∧ Cond.selects yC_serverAt.cls yC_serverAt yC_serverAt ∈ lw_tbl := ⟨tw_345, zt_inp (i := 10) rfl⟩
theorem tc_C_send : zt_M yC_send cC_send 3 (some .long) 1 := ⟨tw_369, tw_1, by decide, by decide, by decide +kernel⟩
theorem tv_C_send : Cond.instanceMethod yC_send ∈ lw_tbl ∧ Cond.selects yC_send.cls yC_send yC_send ∈ lw_tbl := ⟨tw_367, tw_368⟩
theorem tc_S_expect : zt_M yS_expect cS_expect 3 none 1 := ⟨tw_373, tw_3, by decide, by decide, by decide +kernel⟩
theorem tv_S_expect : Cond.instanceMethod yS_expect ∈ lw_tbl ∧ Cond.selects yS_expect.cls yS_expect yS_expect ∈ lw_tbl := ⟨tw_371, tw_372⟩
theorem tc_C_receive : zt_M yC_receive cC_receive 3 (some .int) 1 := ⟨tw_380, tw_1, by decide, by decide, by decide +kernel⟩
theorem tv_C_receive : Cond.instanceMethod yC_receive ∈ lw_tbl ∧ Cond.selects yC_receive.cls yC_receive yC_receive ∈ lw_tbl := ⟨tw_378, tw_379⟩
theorem tc_P_isAnswer : zt_M yP_isAnswer cP_isAnswer 2 (some .boolean) 0 := ⟨tw_384, tw_2, by decide, by decide, by decide +kernel⟩
theorem tv_P_isAnswer : Cond.instanceMethod yP_isAnswer ∈ lw_tbl ∧ Cond.selects yP_isAnswer.cls yP_isAnswer yP_isAnswer ∈ lw_tbl := ⟨tw_382, tw_383⟩
theorem tc_P_read : zt_M yP_read cP_read 6 (some .long) 2 := ⟨tw_388, tw_2, by decide, by decide, by decide +kernel⟩
theorem tv_P_read : Cond.instanceMethod yP_read ∈ lw_tbl ∧ Cond.selects yP_read.cls yP_read yP_read ∈ lw_tbl := ⟨tw_386, tw_387⟩
theorem tc_P_stratum : zt_M yP_stratum cP_stratum 1 (some .int) 0 := ⟨tw_393, tw_2, by decide, by decide, by decide +kernel⟩
theorem tv_P_stratum : Cond.instanceMethod yP_stratum ∈ lw_tbl ∧ Cond.selects yP_stratum.cls yP_stratum yP_stratum ∈ lw_tbl := ⟨tw_391, tw_392⟩
theorem tc_S_obey : zt_M yS_obey cS_obey 3 none 1 := ⟨tw_397, tw_3, by decide, by decide, by decide +kernel⟩
theorem tv_S_obey : Cond.instanceMethod yS_obey ∈ lw_tbl ∧ Cond.selects yS_obey.cls yS_obey yS_obey ∈ lw_tbl := ⟨tw_395, tw_396⟩
theorem tc_S_pollLater : zt_M yS_pollLater cS_pollLater 1 none 0 := ⟨tw_404, tw_3, by decide, by decide, by decide +kernel⟩
theorem tv_S_pollLater : Cond.instanceMethod yS_pollLater ∈ lw_tbl ∧ Cond.selects yS_pollLater.cls yS_pollLater yS_pollLater ∈ lw_tbl := ⟨tw_402, tw_403⟩
theorem tc_J_min_7cf5 : zt_M yJ_min_7cf5 cJ_min_7cf5 2 (some .int) 2 := ⟨tw_407, tw_10, by decide, by decide, by decide +kernel⟩
theorem ts_J_min_7cf5 : Cond.static yJ_min_7cf5 ∈ lw_tbl := tw_406
theorem tc_P_isSynchronized : zt_M yP_isSynchronized cP_isSynchronized 1 (some .boolean) 0 := ⟨tw_411, tw_2, by decide, by decide, by decide +kernel⟩
theorem tv_P_isSynchronized : Cond.instanceMethod yP_isSynchronized ∈ lw_tbl ∧ Cond.selects yP_isSynchronized.cls yP_isSynchronized yP_isSynchronized ∈ lw_tbl := ⟨tw_409, tw_410⟩
theorem tc_C_takeTimes : zt_M yC_takeTimes cC_takeTimes 14 (some .int) 1 := ⟨tw_416, tw_1, by decide, by decide, by decide +kernel⟩
theorem tv_C_takeTimes : Cond.instanceMethod yC_takeTimes ∈ lw_tbl ∧ Cond.selects yC_takeTimes.cls yC_takeTimes yC_takeTimes ∈ lw_tbl := ⟨tw_415, zt_inp (i := 11) rfl⟩
theorem tc_C_halfOfSum : zt_M yC_halfOfSum cC_halfOfSum 4 (some .long) 2 := ⟨tw_419, tw_1, by decide, by decide, by decide +kernel⟩
theorem ts_C_halfOfSum : Cond.static yC_halfOfSum ∈ lw_tbl := tw_418
theorem tc_P_rootDelay : zt_M yP_rootDelay cP_rootDelay 1 (some .long) 0 := ⟨tw_426, tw_2, by decide, by decide, by decide +kernel⟩
theorem tv_P_rootDelay : Cond.instanceMethod yP_rootDelay ∈ lw_tbl ∧ Cond.selects yP_rootDelay.cls yP_rootDelay yP_rootDelay ∈ lw_tbl := ⟨tw_424, tw_425⟩
theorem tc_P_rootDispersion : zt_M yP_rootDispersion cP_rootDispersion 1 (some .long) 0 := ⟨tw_431, tw_2, by decide, by decide, by decide +kernel⟩
theorem tv_P_rootDispersion : Cond.instanceMethod yP_rootDispersion ∈ lw_tbl ∧ Cond.selects yP_rootDispersion.cls yP_rootDispersion yP_rootDispersion ∈ lw_tbl := ⟨tw_429, tw_430⟩
theorem tc_S_keepRoot : zt_M yS_keepRoot cS_keepRoot 6 none 3 := ⟨tw_435, tw_3, by decide, by decide, by decide +kernel⟩
theorem tv_S_keepRoot : Cond.instanceMethod yS_keepRoot ∈ lw_tbl ∧ Cond.selects yS_keepRoot.cls yS_keepRoot yS_keepRoot ∈ lw_tbl := ⟨tw_433, tw_434⟩
theorem tc_S_keepSample : zt_M yS_keepSample cS_keepSample 8 none 3 := ⟨tw_439, tw_3, by decide, by decide, by decide +kernel⟩
theorem tv_S_keepSample : Cond.instanceMethod yS_keepSample ∈ lw_tbl ∧ Cond.selects yS_keepSample.cls yS_keepSample yS_keepSample ∈ lw_tbl := ⟨tw_437, tw_438⟩
theorem tc_C_reach : zt_M yC_reach cC_reach 3 (some .int) 1 := ⟨tw_446, tw_1, by decide, by decide, by decide +kernel⟩
theorem tv_C_reach : Cond.instanceMethod yC_reach ∈ lw_tbl ∧ Cond.selects yC_reach.cls yC_reach yC_reach ∈ lw_tbl := ⟨tw_444, tw_445⟩
theorem tc_C_poll : zt_M yC_poll cC_poll 2 (some .int) 1 := ⟨tw_453, tw_1, by decide, by decide, by decide +kernel⟩
theorem tv_C_poll : Cond.instanceMethod yC_poll ∈ lw_tbl ∧ Cond.selects yC_poll.cls yC_poll yC_poll ∈ lw_tbl := ⟨tw_451, tw_452⟩
theorem tc_C_samples : zt_M yC_samples cC_samples 2 (some .int) 1 := ⟨tw_460, tw_1, by decide, by decide, by decide +kernel⟩
theorem tv_C_samples : Cond.instanceMethod yC_samples ∈ lw_tbl ∧ Cond.selects yC_samples.cls yC_samples yC_samples ∈ lw_tbl := ⟨tw_458, tw_459⟩
theorem tc_C_offset : zt_M yC_offset cC_offset 2 (some .long) 1 := ⟨tw_468, tw_1, by decide, by decide, by decide +kernel⟩
theorem tv_C_offset : Cond.instanceMethod yC_offset ∈ lw_tbl ∧ Cond.selects yC_offset.cls yC_offset yC_offset ∈ lw_tbl := ⟨tw_466, tw_467⟩
theorem tc_C_sampledAt : zt_M yC_sampledAt cC_sampledAt 3 (some (.object "StrataClient$Server")) 1 := ⟨tw_472, tw_1, by decide, by decide, by decide +kernel⟩
theorem tv_C_sampledAt : Cond.instanceMethod yC_sampledAt ∈ lw_tbl ∧ Cond.selects yC_sampledAt.cls yC_sampledAt yC_sampledAt ∈ lw_tbl := ⟨tw_471, zt_inp (i := 12) rfl⟩
theorem tc_C_delay : zt_M yC_delay cC_delay 2 (some .long) 1 := ⟨tw_495, tw_1, by decide, by decide, by decide +kernel⟩
theorem tv_C_delay : Cond.instanceMethod yC_delay ∈ lw_tbl ∧ Cond.selects yC_delay.cls yC_delay yC_delay ∈ lw_tbl := ⟨tw_493, tw_494⟩
theorem tc_S_bestDelay : zt_M yS_bestDelay cS_bestDelay 3 (some .long) 1 := ⟨tw_499, tw_3, by decide, by decide, by decide +kernel⟩
theorem tv_S_bestDelay : Cond.instanceMethod yS_bestDelay ∈ lw_tbl ∧ Cond.selects yS_bestDelay.cls yS_bestDelay yS_bestDelay ∈ lw_tbl := ⟨tw_497, tw_498⟩
theorem tc_C_jitter : zt_M yC_jitter cC_jitter 2 (some .long) 1 := ⟨tw_506, tw_1, by decide, by decide, by decide +kernel⟩
theorem tv_C_jitter : Cond.instanceMethod yC_jitter ∈ lw_tbl ∧ Cond.selects yC_jitter.cls yC_jitter yC_jitter ∈ lw_tbl := ⟨tw_504, tw_505⟩
theorem tc_S_jitterAt : zt_M yS_jitterAt cS_jitterAt 3 (some .long) 1 := ⟨tw_510, tw_3, by decide, by decide, by decide +kernel⟩
theorem tv_S_jitterAt : Cond.instanceMethod yS_jitterAt ∈ lw_tbl ∧ Cond.selects yS_jitterAt.cls yS_jitterAt yS_jitterAt ∈ lw_tbl := ⟨tw_508, tw_509⟩
theorem tc_C_distance : zt_M yC_distance cC_distance 2 (some .long) 1 := ⟨tw_517, tw_1, by decide, by decide, by decide +kernel⟩
theorem tv_C_distance : Cond.instanceMethod yC_distance ∈ lw_tbl ∧ Cond.selects yC_distance.cls yC_distance yC_distance ∈ lw_tbl := ⟨tw_515, tw_516⟩
theorem tc_C_low : zt_M yC_low cC_low 1 (some .long) 0 := ⟨tw_525, tw_1, by decide, by decide, by decide +kernel⟩
theorem tv_C_low : Cond.instanceMethod yC_low ∈ lw_tbl ∧ Cond.selects yC_low.cls yC_low yC_low ∈ lw_tbl := ⟨tw_523, tw_524⟩
theorem tc_V_hasMajority : zt_M yV_hasMajority cV_hasMajority 1 (some .boolean) 0 := ⟨tw_529, tw_4, by decide, by decide, by decide +kernel⟩
theorem tv_V_hasMajority : Cond.instanceMethod yV_hasMajority ∈ lw_tbl ∧ Cond.selects yV_hasMajority.cls yV_hasMajority yV_hasMajority ∈ lw_tbl := ⟨tw_527, tw_528⟩
theorem tc_C_high : zt_M yC_high cC_high 1 (some .long) 0 := ⟨tw_536, tw_1, by decide, by decide, by decide +kernel⟩
theorem tv_C_high : Cond.instanceMethod yC_high ∈ lw_tbl ∧ Cond.selects yC_high.cls yC_high yC_high ∈ lw_tbl := ⟨tw_534, tw_535⟩
theorem tc_C_peer : zt_M yC_peer cC_peer 1 (some .int) 0 := ⟨tw_543, tw_1, by decide, by decide, by decide +kernel⟩
theorem tv_C_peer : Cond.instanceMethod yC_peer ∈ lw_tbl ∧ Cond.selects yC_peer.cls yC_peer yC_peer ∈ lw_tbl := ⟨tw_541, tw_542⟩
theorem tc_V_agrees : zt_M yV_agrees cV_agrees 1 (some .boolean) 0 := ⟨tw_547, tw_4, by decide, by decide, by decide +kernel⟩
theorem tv_V_agrees : Cond.instanceMethod yV_agrees ∈ lw_tbl ∧ Cond.selects yV_agrees.cls yV_agrees yV_agrees ∈ lw_tbl := ⟨tw_545, tw_546⟩
theorem tc_V_choosePeer : zt_M yV_choosePeer cV_choosePeer 4 (some .int) 1 := ⟨tw_552, tw_4, by decide, by decide, by decide +kernel⟩
theorem tv_V_choosePeer : Cond.instanceMethod yV_choosePeer ∈ lw_tbl ∧ Cond.selects yV_choosePeer.cls yV_choosePeer yV_choosePeer ∈ lw_tbl := ⟨tw_550, tw_551⟩
theorem tc_V_isBetter : zt_M yV_isBetter cV_isBetter 6 (some .boolean) 3 := ⟨tw_556, tw_4, by decide, by decide, by decide +kernel⟩
theorem tv_V_isBetter : Cond.instanceMethod yV_isBetter ∈ lw_tbl ∧ Cond.selects yV_isBetter.cls yV_isBetter yV_isBetter ∈ lw_tbl := ⟨tw_555, zt_inp (i := 13) rfl⟩
theorem tc_J_max_7cf5 : zt_M yJ_max_7cf5 cJ_max_7cf5 2 (some .int) 2 := ⟨tw_559, tw_10, by decide, by decide, by decide +kernel⟩
theorem ts_J_max_7cf5 : Cond.static yJ_max_7cf5 ∈ lw_tbl := tw_558
theorem tc_C_update : zt_M yC_update cC_update 5 (some .int) 0 := ⟨tw_567, tw_1, by decide, by decide, by decide +kernel⟩
theorem tv_C_update : Cond.instanceMethod yC_update ∈ lw_tbl ∧ Cond.selects yC_update.cls yC_update yC_update ∈ lw_tbl := ⟨tw_565, tw_566⟩
theorem tc_V_combinedOffset : zt_M yV_combinedOffset cV_combinedOffset 4 (some .long) 0 := ⟨tw_571, tw_4, by decide, by decide, by decide +kernel⟩
theorem tv_V_combinedOffset : Cond.instanceMethod yV_combinedOffset ∈ lw_tbl ∧ Cond.selects yV_combinedOffset.cls yV_combinedOffset yV_combinedOffset ∈ lw_tbl := ⟨tw_569, tw_570⟩
theorem tc_C_stepBy : zt_M yC_stepBy cC_stepBy 4 none 1 := ⟨tw_594, tw_1, by decide, by decide, by decide +kernel⟩
theorem tv_C_stepBy : Cond.instanceMethod yC_stepBy ∈ lw_tbl ∧ Cond.selects yC_stepBy.cls yC_stepBy yC_stepBy ∈ lw_tbl := ⟨tw_593, zt_inp (i := 14) rfl⟩
theorem tc_S_forget : zt_M yS_forget cS_forget 1 none 0 := ⟨tw_598, tw_3, by decide, by decide, by decide +kernel⟩
theorem tv_S_forget : Cond.instanceMethod yS_forget ∈ lw_tbl ∧ Cond.selects yS_forget.cls yS_forget yS_forget ∈ lw_tbl := ⟨tw_596, tw_597⟩
theorem tc_C_tunePolls : zt_M yC_tunePolls cC_tunePolls 7 none 1 := ⟨tw_602, tw_1, by decide, by decide, by decide +kernel⟩
theorem tv_C_tunePolls : Cond.instanceMethod yC_tunePolls ∈ lw_tbl ∧ Cond.selects yC_tunePolls.cls yC_tunePolls yC_tunePolls ∈ lw_tbl := ⟨tw_601, zt_inp (i := 15) rfl⟩
theorem tc_S_pollSooner : zt_M yS_pollSooner cS_pollSooner 1 none 0 := ⟨tw_607, tw_3, by decide, by decide, by decide +kernel⟩
theorem tv_S_pollSooner : Cond.instanceMethod yS_pollSooner ∈ lw_tbl ∧ Cond.selects yS_pollSooner.cls yS_pollSooner yS_pollSooner ∈ lw_tbl := ⟨tw_605, tw_606⟩
theorem tc_M_init : zt_M yM_init cM_init 2 none 0 := ⟨tw_615, tw_5, by decide, by decide, by decide +kernel⟩
theorem tc_M_thrown : zt_M yM_thrown cM_thrown 1 (some .int) 0 := ⟨tw_683, tw_5, by decide, by decide, by decide +kernel⟩
theorem tv_M_thrown : Cond.instanceMethod yM_thrown ∈ lw_tbl ∧ Cond.selects yM_thrown.cls yM_thrown yM_thrown ∈ lw_tbl := ⟨tw_681, tw_682⟩
theorem tc_M_run : zt_M yM_run cM_run 7 none 1 := ⟨tw_687, tw_5, by decide, by decide, by decide +kernel⟩
theorem tv_M_run : Cond.instanceMethod yM_run ∈ lw_tbl ∧ Cond.selects yM_run.cls yM_run yM_run ∈ lw_tbl := ⟨tw_685, tw_686⟩
theorem tc_M_local : zt_M yM_local cM_local 1 (some .long) 0 := ⟨tw_693, tw_5, by decide, by decide, by decide +kernel⟩
theorem tv_M_local : Cond.instanceMethod yM_local ∈ lw_tbl ∧ Cond.selects yM_local.cls yM_local yM_local ∈ lw_tbl := ⟨tw_691, tw_692⟩
theorem tc_M_slew : zt_M yM_slew cM_slew 1 (some .long) 0 := ⟨tw_697, tw_5, by decide, by decide, by decide +kernel⟩
theorem tv_M_slew : Cond.instanceMethod yM_slew ∈ lw_tbl ∧ Cond.selects yM_slew.cls yM_slew yM_slew ∈ lw_tbl := ⟨tw_695, tw_696⟩
theorem tc_M_put : zt_M yM_put cM_put 5 none 3 := ⟨tw_701, tw_5, by decide, by decide, by decide +kernel⟩
theorem tv_M_put : Cond.instanceMethod yM_put ∈ lw_tbl ∧ Cond.selects yM_put.cls yM_put yM_put ∈ lw_tbl := ⟨tw_699, tw_700⟩
theorem tc_M_write : zt_M yM_write cM_write 6 none 3 := ⟨tw_705, tw_5, by decide, by decide, by decide +kernel⟩
theorem tv_M_write : Cond.instanceMethod yM_write ∈ lw_tbl ∧ Cond.selects yM_write.cls yM_write yM_write ∈ lw_tbl := ⟨tw_704, zt_inp (i := 16) rfl⟩
theorem tc_M_echo : zt_M yM_echo cM_echo 6 none 3 := ⟨tw_710, tw_5, by decide, by decide, by decide +kernel⟩
theorem tv_M_echo : Cond.instanceMethod yM_echo ∈ lw_tbl ∧ Cond.selects yM_echo.cls yM_echo yM_echo ∈ lw_tbl := ⟨tw_708, tw_709⟩
theorem tc_M_isServer : zt_M yM_isServer cM_isServer 1 (some .boolean) 1 := ⟨tw_713, tw_5, by decide, by decide, by decide +kernel⟩
theorem ts_M_isServer : Cond.static yM_isServer ∈ lw_tbl := tw_712
theorem tc_M_send : zt_M yM_send cM_send 2 (some .long) 1 := ⟨tw_717, tw_5, by decide, by decide, by decide +kernel⟩
theorem tv_M_send : Cond.instanceMethod yM_send ∈ lw_tbl ∧ Cond.selects yM_send.cls yM_send yM_send ∈ lw_tbl := ⟨tw_715, tw_716⟩
theorem tc_M_receive : zt_M yM_receive cM_receive 16 (some .int) 1 := ⟨tw_721, tw_5, by decide, by decide, by decide +kernel⟩
theorem tv_M_receive : Cond.instanceMethod yM_receive ∈ lw_tbl ∧ Cond.selects yM_receive.cls yM_receive yM_receive ∈ lw_tbl := ⟨tw_719, tw_720⟩
theorem tc_M_read : zt_M yM_read cM_read 6 (some .long) 2 := ⟨tw_725, tw_5, by decide, by decide, by decide +kernel⟩
theorem tv_M_read : Cond.instanceMethod yM_read ∈ lw_tbl ∧ Cond.selects yM_read.cls yM_read yM_read ∈ lw_tbl := ⟨tw_724, zt_inp (i := 17) rfl⟩
theorem tc_M_kiss : zt_M yM_kiss cM_kiss 4 (some .int) 1 := ⟨tw_729, tw_5, by decide, by decide, by decide +kernel⟩
theorem tv_M_kiss : Cond.instanceMethod yM_kiss ∈ lw_tbl ∧ Cond.selects yM_kiss.cls yM_kiss yM_kiss ∈ lw_tbl := ⟨tw_728, zt_inp (i := 18) rfl⟩
theorem tc_M_half : zt_M yM_half cM_half 4 (some .long) 2 := ⟨tw_735, tw_5, by decide, by decide, by decide +kernel⟩
theorem ts_M_half : Cond.static yM_half ∈ lw_tbl := tw_734
theorem tc_M_reach : zt_M yM_reach cM_reach 2 (some .int) 1 := ⟨tw_742, tw_5, by decide, by decide, by decide +kernel⟩
theorem tv_M_reach : Cond.instanceMethod yM_reach ∈ lw_tbl ∧ Cond.selects yM_reach.cls yM_reach yM_reach ∈ lw_tbl := ⟨tw_740, tw_741⟩
theorem tc_M_poll : zt_M yM_poll cM_poll 2 (some .int) 1 := ⟨tw_746, tw_5, by decide, by decide, by decide +kernel⟩
theorem tv_M_poll : Cond.instanceMethod yM_poll ∈ lw_tbl ∧ Cond.selects yM_poll.cls yM_poll yM_poll ∈ lw_tbl := ⟨tw_744, tw_745⟩
theorem tc_M_samples : zt_M yM_samples cM_samples 2 (some .int) 1 := ⟨tw_750, tw_5, by decide, by decide, by decide +kernel⟩
theorem tv_M_samples : Cond.instanceMethod yM_samples ∈ lw_tbl ∧ Cond.selects yM_samples.cls yM_samples yM_samples ∈ lw_tbl := ⟨tw_748, tw_749⟩
theorem tc_M_offset : zt_M yM_offset cM_offset 2 (some .long) 1 := ⟨tw_754, tw_5, by decide, by decide, by decide +kernel⟩
theorem tv_M_offset : Cond.instanceMethod yM_offset ∈ lw_tbl ∧ Cond.selects yM_offset.cls yM_offset yM_offset ∈ lw_tbl := ⟨tw_752, tw_753⟩
theorem tc_M_shows : zt_M yM_shows cM_shows 2 (some .boolean) 1 := ⟨tw_758, tw_5, by decide, by decide, by decide +kernel⟩
theorem tv_M_shows : Cond.instanceMethod yM_shows ∈ lw_tbl ∧ Cond.selects yM_shows.cls yM_shows yM_shows ∈ lw_tbl := ⟨tw_757, zt_inp (i := 19) rfl⟩
theorem tc_M_offsetOf : zt_M yM_offsetOf cM_offsetOf 2 (some .long) 1 := ⟨tw_762, tw_5, by decide, by decide, by decide +kernel⟩
theorem tv_M_offsetOf : Cond.instanceMethod yM_offsetOf ∈ lw_tbl ∧ Cond.selects yM_offsetOf.cls yM_offsetOf yM_offsetOf ∈ lw_tbl := ⟨tw_761, zt_inp (i := 20) rfl⟩
theorem tc_M_best : zt_M yM_best cM_best 5 (some .int) 1 := ⟨tw_766, tw_5, by decide, by decide, by decide +kernel⟩
theorem tv_M_best : Cond.instanceMethod yM_best ∈ lw_tbl ∧ Cond.selects yM_best.cls yM_best yM_best ∈ lw_tbl := ⟨tw_765, zt_inp (i := 21) rfl⟩
theorem tc_M_dispersion : zt_M yM_dispersion cM_dispersion 2 (some .long) 1 := ⟨tw_771, tw_5, by decide, by decide, by decide +kernel⟩
theorem tv_M_dispersion : Cond.instanceMethod yM_dispersion ∈ lw_tbl ∧ Cond.selects yM_dispersion.cls yM_dispersion yM_dispersion ∈ lw_tbl := ⟨tw_770, zt_inp (i := 22) rfl⟩
theorem tc_M_delay : zt_M yM_delay cM_delay 2 (some .long) 1 := ⟨tw_775, tw_5, by decide, by decide, by decide +kernel⟩
theorem tv_M_delay : Cond.instanceMethod yM_delay ∈ lw_tbl ∧ Cond.selects yM_delay.cls yM_delay yM_delay ∈ lw_tbl := ⟨tw_773, tw_774⟩
theorem tc_M_jitter : zt_M yM_jitter cM_jitter 2 (some .long) 1 := ⟨tw_779, tw_5, by decide, by decide, by decide +kernel⟩
theorem tv_M_jitter : Cond.instanceMethod yM_jitter ∈ lw_tbl ∧ Cond.selects yM_jitter.cls yM_jitter yM_jitter ∈ lw_tbl := ⟨tw_777, tw_778⟩
theorem tc_M_jitterOf : zt_M yM_jitterOf cM_jitterOf 9 (some .long) 1 := ⟨tw_783, tw_5, by decide, by decide, by decide +kernel⟩
theorem tv_M_jitterOf : Cond.instanceMethod yM_jitterOf ∈ lw_tbl ∧ Cond.selects yM_jitterOf.cls yM_jitterOf yM_jitterOf ∈ lw_tbl := ⟨tw_782, zt_inp (i := 23) rfl⟩
theorem tc_M_size : zt_M yM_size cM_size 2 (some .long) 1 := ⟨tw_786, tw_5, by decide, by decide, by decide +kernel⟩
theorem ts_M_size : Cond.static yM_size ∈ lw_tbl := tw_785
theorem tc_M_distance : zt_M yM_distance cM_distance 2 (some .long) 1 := ⟨tw_790, tw_5, by decide, by decide, by decide +kernel⟩
theorem tv_M_distance : Cond.instanceMethod yM_distance ∈ lw_tbl ∧ Cond.selects yM_distance.cls yM_distance yM_distance ∈ lw_tbl := ⟨tw_788, tw_789⟩
theorem tc_M_distanceOf : zt_M yM_distanceOf cM_distanceOf 3 (some .long) 1 := ⟨tw_794, tw_5, by decide, by decide, by decide +kernel⟩
theorem tv_M_distanceOf : Cond.instanceMethod yM_distanceOf ∈ lw_tbl ∧ Cond.selects yM_distanceOf.cls yM_distanceOf yM_distanceOf ∈ lw_tbl := ⟨tw_793, zt_inp (i := 24) rfl⟩
theorem tc_M_candidates : zt_M yM_candidates cM_candidates 3 (some .int) 0 := ⟨tw_798, tw_5, by decide, by decide, by decide +kernel⟩
theorem tv_M_candidates : Cond.instanceMethod yM_candidates ∈ lw_tbl ∧ Cond.selects yM_candidates.cls yM_candidates yM_candidates ∈ lw_tbl := ⟨tw_796, tw_797⟩
theorem tc_M_isCandidate : zt_M yM_isCandidate cM_isCandidate 2 (some .boolean) 1 := ⟨tw_802, tw_5, by decide, by decide, by decide +kernel⟩
theorem tv_M_isCandidate : Cond.instanceMethod yM_isCandidate ∈ lw_tbl ∧ Cond.selects yM_isCandidate.cls yM_isCandidate yM_isCandidate ∈ lw_tbl := ⟨tw_801, zt_inp (i := 25) rfl⟩
theorem tc_M_low : zt_M yM_low cM_low 1 (some .long) 0 := ⟨tw_807, tw_5, by decide, by decide, by decide +kernel⟩
theorem tv_M_low : Cond.instanceMethod yM_low ∈ lw_tbl ∧ Cond.selects yM_low.cls yM_low yM_low ∈ lw_tbl := ⟨tw_805, tw_806⟩
theorem tc_M_majority : zt_M yM_majority cM_majority 7 (some .boolean) 0 := ⟨tw_811, tw_5, by decide, by decide, by decide +kernel⟩
theorem tv_M_majority : Cond.instanceMethod yM_majority ∈ lw_tbl ∧ Cond.selects yM_majority.cls yM_majority yM_majority ∈ lw_tbl := ⟨tw_810, zt_inp (i := 26) rfl⟩
theorem tc_M_isCommon : zt_M yM_isCommon cM_isCommon 6 (some .boolean) 1 := ⟨tw_815, tw_5, by decide, by decide, by decide +kernel⟩
theorem tv_M_isCommon : Cond.instanceMethod yM_isCommon ∈ lw_tbl ∧ Cond.selects yM_isCommon.cls yM_isCommon yM_isCommon ∈ lw_tbl := ⟨tw_814, zt_inp (i := 27) rfl⟩
theorem tc_M_high : zt_M yM_high cM_high 1 (some .long) 0 := ⟨tw_819, tw_5, by decide, by decide, by decide +kernel⟩
theorem tv_M_high : Cond.instanceMethod yM_high ∈ lw_tbl ∧ Cond.selects yM_high.cls yM_high yM_high ∈ lw_tbl := ⟨tw_817, tw_818⟩
theorem tc_M_survivors : zt_M yM_survivors cM_survivors 3 (some .int) 0 := ⟨tw_823, tw_5, by decide, by decide, by decide +kernel⟩
theorem tv_M_survivors : Cond.instanceMethod yM_survivors ∈ lw_tbl ∧ Cond.selects yM_survivors.cls yM_survivors yM_survivors ∈ lw_tbl := ⟨tw_821, tw_822⟩
theorem tc_M_survive : zt_M yM_survive cM_survive 9 (some .int) 0 := ⟨tw_827, tw_5, by decide, by decide, by decide +kernel⟩
theorem tv_M_survive : Cond.instanceMethod yM_survive ∈ lw_tbl ∧ Cond.selects yM_survive.cls yM_survive yM_survive ∈ lw_tbl := ⟨tw_826, zt_inp (i := 28) rfl⟩
theorem tc_M_spread : zt_M yM_spread cM_spread 5 (some .long) 1 := ⟨tw_832, tw_5, by decide, by decide, by decide +kernel⟩
theorem tv_M_spread : Cond.instanceMethod yM_spread ∈ lw_tbl ∧ Cond.selects yM_spread.cls yM_spread yM_spread ∈ lw_tbl := ⟨tw_831, zt_inp (i := 29) rfl⟩
theorem tc_M_peer : zt_M yM_peer cM_peer 1 (some .int) 0 := ⟨tw_836, tw_5, by decide, by decide, by decide +kernel⟩
theorem tv_M_peer : Cond.instanceMethod yM_peer ∈ lw_tbl ∧ Cond.selects yM_peer.cls yM_peer yM_peer ∈ lw_tbl := ⟨tw_834, tw_835⟩
theorem tc_M_peerOf : zt_M yM_peerOf cM_peerOf 4 (some .int) 0 := ⟨tw_840, tw_5, by decide, by decide, by decide +kernel⟩
theorem tv_M_peerOf : Cond.instanceMethod yM_peerOf ∈ lw_tbl ∧ Cond.selects yM_peerOf.cls yM_peerOf yM_peerOf ∈ lw_tbl := ⟨tw_839, zt_inp (i := 30) rfl⟩
theorem tc_M_update : zt_M yM_update cM_update 4 (some .int) 0 := ⟨tw_844, tw_5, by decide, by decide, by decide +kernel⟩
theorem tv_M_update : Cond.instanceMethod yM_update ∈ lw_tbl ∧ Cond.selects yM_update.cls yM_update yM_update ∈ lw_tbl := ⟨tw_842, tw_843⟩
theorem tc_M_combined : zt_M yM_combined cM_combined 6 (some .long) 1 := ⟨tw_848, tw_5, by decide, by decide, by decide +kernel⟩
theorem tv_M_combined : Cond.instanceMethod yM_combined ∈ lw_tbl ∧ Cond.selects yM_combined.cls yM_combined yM_combined ∈ lw_tbl := ⟨tw_847, zt_inp (i := 31) rfl⟩
theorem tc_M_step : zt_M yM_step cM_step 4 none 1 := ⟨tw_854, tw_5, by decide, by decide, by decide +kernel⟩
theorem tv_M_step : Cond.instanceMethod yM_step ∈ lw_tbl ∧ Cond.selects yM_step.cls yM_step yM_step ∈ lw_tbl := ⟨tw_853, zt_inp (i := 32) rfl⟩
theorem tc_M_slow : zt_M yM_slow cM_slow 5 none 1 := ⟨tw_858, tw_5, by decide, by decide, by decide +kernel⟩
theorem tv_M_slow : Cond.instanceMethod yM_slow ∈ lw_tbl ∧ Cond.selects yM_slow.cls yM_slow yM_slow ∈ lw_tbl := ⟨tw_857, zt_inp (i := 33) rfl⟩
end
section
/-! Numbers of Java, as both sides use them -/
def zn_max (x y : Int64) : Int64 := if x < y then y else x
def zn_maxi (x y : Int32) : Int32 := if x < y then y else x
def zn_mini (x y : Int32) : Int32 := if y < x then y else x
def zn_min (x y : Int64) : Int64 := if y < x then y else x
def zn_abs (x : Int64) : Int64 := if x < 0 then -x else x
def zn_fd (x y : Int64) : Int64 := if (x ^^^ y) < 0 ∧ ¬ (x / y * y = x) then x / y - 1 else x / y
def zn_bc (x : Int32) : Int32 :=
  let a := x - ((Int32.toUInt32 x >>> (Int32.toUInt32 1 &&& Int32.toUInt32 31)).toInt32 &&& 1431655765)
  let b := (a &&& 858993459) + ((Int32.toUInt32 a >>> (Int32.toUInt32 2 &&& Int32.toUInt32 31)).toInt32 &&& 858993459)
  let c := (b + (Int32.toUInt32 b >>> (Int32.toUInt32 4 &&& Int32.toUInt32 31)).toInt32) &&& 252645135
  let d := c + (Int32.toUInt32 c >>> (Int32.toUInt32 8 &&& Int32.toUInt32 31)).toInt32
  let e := d + (Int32.toUInt32 d >>> (Int32.toUInt32 16 &&& Int32.toUInt32 31)).toInt32
  e &&& 63
theorem zn_part {most slew : Int64} (h : ¬ most < 0) : zn_max (-most) (zn_min most slew) = if most < slew then most else if slew < -most then -most else slew := by
  unfold zn_max zn_min
  have h0 : (0 : Int64).toInt = 0 := rfl
  have hn : (-most).toInt = - most.toInt := by
    rw [Int64.toInt_neg]
    rw [Int64.lt_iff_toInt_lt] at h
    have h1 := most.toInt_lt
    rw [Int.bmod_eq_of_le] <;> omega
  rw [Int64.lt_iff_toInt_lt] at h
  by_cases h1 : slew < most
  · rw [if_pos h1]
    have h2 : ¬ most < slew := by
      rw [Int64.lt_iff_toInt_lt] at h1 ⊢
      omega
    rw [if_neg h2]
    by_cases h3 : slew < -most
    · rw [if_pos h3, if_neg]
      rw [Int64.lt_iff_toInt_lt] at h3 ⊢
      omega
    · rw [if_neg h3]
      by_cases h4 : -most < slew
      · rw [if_pos h4]
      · rw [if_neg h4]
        apply Int64.toInt_inj.mp
        rw [Int64.lt_iff_toInt_lt] at h3 h4
        omega
  · rw [if_neg h1]
    by_cases h5 : -most < most
    · rw [if_pos h5]
      by_cases h2 : most < slew
      · rw [if_pos h2]
      · rw [if_neg h2]
        have he : slew = most := by
          apply Int64.toInt_inj.mp
          rw [Int64.lt_iff_toInt_lt] at h1 h2
          omega
        subst he
        rw [if_neg]
        rw [Int64.lt_iff_toInt_lt] at h5 ⊢
        omega
    · rw [if_neg h5]
      have hz : most = 0 := by
        apply Int64.toInt_inj.mp
        rw [Int64.lt_iff_toInt_lt] at h5
        omega
      subst hz
      by_cases h2 : (0 : Int64) < slew
      · rw [if_pos h2]
        rfl
      · rw [if_neg h2]
        have he : slew = 0 := by
          apply Int64.toInt_inj.mp
          rw [Int64.lt_iff_toInt_lt] at h1 h2
          omega
        subst he
        rfl
theorem zn_xorneg {x y : Int64} (hx : ¬ x < 0) (hy : ¬ y < 0) : ¬ (x ^^^ y) < 0 := by
  have key : ∀ z : Int64, z < 0 ↔ z.toBitVec.msb = true := by
    intro z
    rw [Int64.lt_iff_toInt_lt]
    show z.toBitVec.toInt < 0 ↔ _
    rw [BitVec.msb_eq_toInt]
    simp
  rw [key] at hx hy ⊢
  rw [Int64.toBitVec_xor, BitVec.msb_xor]
  simp at hx hy
  simp [hx, hy]
theorem zn_fd_pos {x y : Int64} (hx : ¬ x < 0) (hy : ¬ y < 0) : zn_fd x y = x / y := by
  unfold zn_fd
  rw [if_neg]
  intro h
  exact zn_xorneg hx hy h.1
theorem zn_nat_cs : ∀ (x y : Nat), x + y = (x ^^^ y) + 2 * (x &&& y) := by
  intro x
  induction x using Nat.strongRecOn with
  | ind x ih =>
    intro y
    by_cases h : x = 0
    · subst h
      simp
    · have h1 := ih (x / 2) (by omega) (y / 2)
      have e1 : (x ^^^ y) / 2 = x / 2 ^^^ y / 2 := Nat.xor_div_two
      have e2 : (x &&& y) / 2 = x / 2 &&& y / 2 := Nat.and_div_two
      have m1 := Nat.xor_mod_two_eq_one (a := x) (b := y)
      have m2 := Nat.and_mod_two_eq_one (a := x) (b := y)
      rw [← e1, ← e2] at h1
      omega
theorem zn_bv_cs (x y : BitVec 64) : x + y = (x ^^^ y) + 2#64 * (x &&& y) := by
  apply BitVec.eq_of_toNat_eq
  rw [BitVec.toNat_add, BitVec.toNat_add, BitVec.toNat_mul, BitVec.toNat_xor, BitVec.toNat_and, zn_nat_cs x.toNat y.toNat]
  have h2 : (2#64).toNat = 2 := rfl
  rw [h2]
  omega
theorem zn_bv_split (c : BitVec 64) : c = 2#64 * c.sshiftRight 1 + (c &&& 1#64) := by
  apply BitVec.eq_of_toInt_eq
  have h1 : (c &&& 1#64).toInt = c.toInt % 2 := by
    have h : (c &&& 1#64).toNat = c.toNat % 2 := by
      rw [BitVec.toNat_and]
      exact Nat.and_two_pow_sub_one_eq_mod c.toNat 1
    rw [BitVec.toInt_eq_toNat_cond, BitVec.toInt_eq_toNat_cond, h]
    split <;> split <;> omega
  rw [BitVec.toInt_add, BitVec.toInt_mul, BitVec.toInt_sshiftRight, h1]
  have h2 : (2#64).toInt = 2 := rfl
  have h3 := c.toInt_lt
  have h4 := c.le_toInt
  rw [h2, Int.shiftRight_eq_div_pow, Int.bmod_add_bmod]
  rw [Int.bmod_eq_of_le] <;> omega
theorem zn_half_bv (a b : BitVec 64) : (a &&& b) + (a ^^^ b).sshiftRight 1 = a.sshiftRight 1 + b.sshiftRight 1 + (a &&& b &&& 1#64) := by
  have h1 := zn_bv_split (a &&& b)
  rw [BitVec.sshiftRight_and_distrib] at h1
  rw [BitVec.sshiftRight_xor_distrib, zn_bv_cs (a.sshiftRight 1) (b.sshiftRight 1)]
  calc (a &&& b) + (a.sshiftRight 1 ^^^ b.sshiftRight 1) = (2#64 * (a.sshiftRight 1 &&& b.sshiftRight 1) + (a &&& b &&& 1#64)) + (a.sshiftRight 1 ^^^ b.sshiftRight 1) := by rw [← h1]
    _ = _ := by rw [BitVec.add_comm, ← BitVec.add_assoc]
theorem zn_tdiv_in (X N : Int) (hN : 0 < N) : (0 ≤ X → 0 ≤ X.tdiv N * N ∧ X.tdiv N * N ≤ X) ∧ (X ≤ 0 → X ≤ X.tdiv N * N ∧ X.tdiv N * N ≤ 0) := by
  have key : ∀ Y : Int, 0 ≤ Y → 0 ≤ Y.tdiv N * N ∧ Y.tdiv N * N ≤ Y := by
    intro Y hY
    rw [Int.tdiv_eq_ediv_of_nonneg hY]
    exact ⟨Int.mul_nonneg (Int.ediv_nonneg hY (Int.le_of_lt hN)) (Int.le_of_lt hN), Int.ediv_mul_le Y (Int.ne_of_gt hN)⟩
  refine ⟨key X, fun h => ?_⟩
  have h1 := key (-X) (by omega)
  rw [Int.neg_tdiv, Int.neg_mul] at h1
  omega
theorem zn_msb (z : Int64) : z < 0 ↔ z.toBitVec.msb = true := by
  rw [Int64.lt_iff_toInt_lt]
  show z.toBitVec.toInt < 0 ↔ _
  rw [BitVec.msb_eq_toInt]
  simp
theorem zn_fd_model {x n : Int64} (hn : 0 < n) : zn_fd x n = if x < x / n * n then x / n - 1 else x / n := by
  have h0 : (0 : Int64).toInt = 0 := rfl
  have hN : 0 < n.toInt := by
    rw [Int64.lt_iff_toInt_lt] at hn
    omega
  have hne : n ≠ -1 := by
    intro h
    subst h
    revert hn
    decide
  have hq : (x / n).toInt = x.toInt.tdiv n.toInt := Int64.toInt_div_of_ne_right x n hne
  obtain ⟨k1, k2⟩ := zn_tdiv_in x.toInt n.toInt hN
  have b1 := x.toInt_lt
  have b2 := x.le_toInt
  have hm : (x / n * n).toInt = x.toInt.tdiv n.toInt * n.toInt := by
    rw [Int64.toInt_mul, hq]
    rcases Int.le_total 0 x.toInt with h | h
    · have := k1 h
      rw [Int.bmod_eq_of_le] <;> omega
    · have := k2 h
      rw [Int.bmod_eq_of_le] <;> omega
  unfold zn_fd
  by_cases hx : x < 0
  · have hxn : (x ^^^ n) < 0 := by
      have hn9 : ¬ n < 0 := by
        rw [Int64.lt_iff_toInt_lt]
        omega
      rw [zn_msb] at hx hn9 ⊢
      rw [Int64.toBitVec_xor, BitVec.msb_xor]
      simp at hn9
      simp [hx, hn9]
    have hx9 : x.toInt ≤ 0 := by
      rw [Int64.lt_iff_toInt_lt] at hx
      omega
    have hiff : ((x ^^^ n) < 0 ∧ ¬ (x / n * n = x)) ↔ x < x / n * n := by
      rw [Int64.lt_iff_toInt_lt (x := x), hm, ← Int64.toInt_inj, hm]
      have := k2 hx9
      constructor
      · intro h
        omega
      · intro h
        exact ⟨hxn, by omega⟩
    by_cases hc : x < x / n * n
    · rw [if_pos hc, if_pos (hiff.mpr hc)]
    · rw [if_neg hc, if_neg (fun h => hc (hiff.mp h))]
  · have h1 : ¬ ((x ^^^ n) < 0 ∧ ¬ (x / n * n = x)) := by
      intro h
      refine zn_xorneg hx ?_ h.1
      rw [Int64.lt_iff_toInt_lt]
      omega
    have h2 : ¬ x < x / n * n := by
      rw [Int64.lt_iff_toInt_lt] at hx ⊢
      rw [hm]
      have := k1 (by omega)
      omega
    rw [if_neg h1, if_neg h2]
end
section
/-! What a server's readings are -/
def zs_dist (del arr : Nat → Int64) (now : Int64) (i : Nat) : Int64 := del i / 2 + 65536 + zn_fd (now - arr i) 65536
def zs_best (d : Nat → Int64) : Nat → Nat
  | 0 => 0
  | n + 1 => if d n < d (zs_best d n) then n else zs_best d n
theorem zs_best_1 (d : Nat → Int64) : zs_best d 1 = 0 := by
  simp [zs_best]
theorem zs_best_le (d : Nat → Int64) : ∀ n, zs_best d n ≤ n - 1 := by
  intro n
  induction n with
  | zero => exact Nat.le_refl _
  | succ n ih =>
    simp only [zs_best]
    split <;> omega
theorem zs_best_lt (d : Nat → Int64) {n : Nat} (h : n ≤ 8) : zs_best d n < 8 := by
  have := zs_best_le d n
  omega
def zs_far (off : Nat → Int64) (mid : Int64) : Nat → Int64
  | 0 => 0
  | n + 1 => zn_max (zs_far off mid n) (zn_abs (off n - mid))
def zs_at (del arr : Nat → Int64) (now : Int64) (n : Nat) : Nat := zs_best (zs_dist del arr now) n
def zs_jit (off del arr : Nat → Int64) (now : Int64) (n : Nat) : Int64 := zs_far off (off (zs_at del arr now n)) n
def zs_root (rdl rds : Int64) (off del arr : Nat → Int64) (now : Int64) (n : Nat) : Int64 := rdl / 2 + zs_dist del arr now (zs_at del arr now n) + rds + zs_jit off del arr now n
/-- a server's cells: itself, its offsets, delays, arrivals -/
abbrev zs_W (o a b d : Nat) (cJ : ClassId) (den rch pol exg : Int32) (xp : Int64) (cnt str : Int32) (rdl rds : Int64) (off del arr : Nat → Int64) : va_W :=
  [(o, .inr (1, [.int den, .int rch, .int pol, .int exg, .long xp, .int cnt, .int str, .long rdl, .long rds, .ref a, .ref b, .ref d])), (a, .inl (cJ, 8, .inr (.inl off))), (b, .inl (cJ, 8, .inr (.inl del))), (d, .inl (cJ, 8, .inr (.inl arr)))]
end
section
/-! The JDK's numbers -/
set_option maxHeartbeats 4000000 in
set_option maxRecDepth 100000 in
theorem ct_J_max_f86c (l : Launch) {x y : Int64} : Met l yJ_max_f86c [Cond.code yJ_max_f86c cJ_max_f86c 4 (some .long)] { frames := 0, cells := 0, slots := 0, locals := 0 } (va_Pc [.long x, .long y] zt_TB) (zz_Q (.long (zn_max x y))) 0 0 (fun _ => False) := by
  refine va_MetF (cc := cJ_max_f86c) (maxL := 4) (ret := (some .long)) (by decide +kernel) rfl ?_
  intro p e s m args below meth c s₁ B hml hv
  obtain ⟨rfl, hT⟩ := hv
  have hx := B.exec
  have hb := B.bytes
  have hr := B.returns
  have hlocks := B.notSynchronized
  have hown : s.vm.findClass RJ = some m.cls := findClass_of_methodNamed B.named
  have hl := lv_entry ([.long x, .long y]) (n := 4) (Nat.le_of_ble_eq_true rfl)
  rw [lg_entry_eq]
  generalize (lg_sl ([.long x, .long y]) ++ List.replicate (4 - (lg_sl ([.long x, .long y])).length) Slot.unset).toArray = ls at hl ⊢
  have hl : lv_has ls 4 [(0, .long x), (2, .long y)] := hl
  refine lv_lload_n hx hb dJ_max_f86c_0 rfl (lv_at hl 0 rfl) ?_
  refine lv_lload_n hx hb dJ_max_f86c_1 rfl (lv_at hl 1 rfl) ?_
  refine zz_llt (tgt := 10) hx hb dJ_max_f86c_2 dJ_max_f86c_3 (by decide) (fun h1 => ?_) (fun h1 => ?_)
  · refine lv_lload_n hx hb dJ_max_f86c_10 rfl (lv_at hl 1 rfl) ?_
    exact zz_lret hx hb hr hlocks dJ_max_f86c_11 (by first | rfl | exact (if_pos h1).symm | exact (if_neg h1).symm)
  · refine lv_lload_n hx hb dJ_max_f86c_6 rfl (lv_at hl 0 rfl) ?_
    refine lv_goto (tgt := 11) hx hb dJ_max_f86c_7 (by decide) ?_
    exact zz_lret hx hb hr hlocks dJ_max_f86c_11 (by first | rfl | exact (if_pos h1).symm | exact (if_neg h1).symm)
set_option maxHeartbeats 4000000 in
set_option maxRecDepth 100000 in
theorem ct_J_min_f86c (l : Launch) {x y : Int64} : Met l yJ_min_f86c [Cond.code yJ_min_f86c cJ_min_f86c 4 (some .long)] { frames := 0, cells := 0, slots := 0, locals := 0 } (va_Pc [.long x, .long y] zt_TB) (zz_Q (.long (zn_min x y))) 0 0 (fun _ => False) := by
  refine va_MetF (cc := cJ_min_f86c) (maxL := 4) (ret := (some .long)) (by decide +kernel) rfl ?_
  intro p e s m args below meth c s₁ B hml hv
  obtain ⟨rfl, hT⟩ := hv
  have hx := B.exec
  have hb := B.bytes
  have hr := B.returns
  have hlocks := B.notSynchronized
  have hown : s.vm.findClass RJ = some m.cls := findClass_of_methodNamed B.named
  have hl := lv_entry ([.long x, .long y]) (n := 4) (Nat.le_of_ble_eq_true rfl)
  rw [lg_entry_eq]
  generalize (lg_sl ([.long x, .long y]) ++ List.replicate (4 - (lg_sl ([.long x, .long y])).length) Slot.unset).toArray = ls at hl ⊢
  have hl : lv_has ls 4 [(0, .long x), (2, .long y)] := hl
  refine lv_lload_n hx hb dJ_min_f86c_0 rfl (lv_at hl 0 rfl) ?_
  refine lv_lload_n hx hb dJ_min_f86c_1 rfl (lv_at hl 1 rfl) ?_
  refine zz_lgt (tgt := 10) hx hb dJ_min_f86c_2 dJ_min_f86c_3 (by decide) (fun h1 => ?_) (fun h1 => ?_)
  · refine lv_lload_n hx hb dJ_min_f86c_10 rfl (lv_at hl 1 rfl) ?_
    exact zz_lret hx hb hr hlocks dJ_min_f86c_11 (by first | rfl | exact (if_pos h1).symm | exact (if_neg h1).symm)
  · refine lv_lload_n hx hb dJ_min_f86c_6 rfl (lv_at hl 0 rfl) ?_
    refine lv_goto (tgt := 11) hx hb dJ_min_f86c_7 (by decide) ?_
    exact zz_lret hx hb hr hlocks dJ_min_f86c_11 (by first | rfl | exact (if_pos h1).symm | exact (if_neg h1).symm)
set_option maxHeartbeats 4000000 in
set_option maxRecDepth 100000 in
theorem ct_J_max_7cf5 (l : Launch) {x y : Int32} : Met l yJ_max_7cf5 [Cond.code yJ_max_7cf5 cJ_max_7cf5 2 (some .int)] { frames := 0, cells := 0, slots := 0, locals := 0 } (va_Pc [.int x, .int y] zt_TB) (zz_Q (.int (zn_maxi x y))) 0 0 (fun _ => False) := by
  refine va_MetF (cc := cJ_max_7cf5) (maxL := 2) (ret := (some .int)) (by decide +kernel) rfl ?_
  intro p e s m args below meth c s₁ B hml hv
  obtain ⟨rfl, hT⟩ := hv
  have hx := B.exec
  have hb := B.bytes
  have hr := B.returns
  have hlocks := B.notSynchronized
  have hown : s.vm.findClass RJ = some m.cls := findClass_of_methodNamed B.named
  have hl := lv_entry ([.int x, .int y]) (n := 2) (Nat.le_of_ble_eq_true rfl)
  rw [lg_entry_eq]
  generalize (lg_sl ([.int x, .int y]) ++ List.replicate (2 - (lg_sl ([.int x, .int y])).length) Slot.unset).toArray = ls at hl ⊢
  have hl : lv_has ls 2 [(0, .int x), (1, .int y)] := hl
  refine lv_iload_n hx hb dJ_max_7cf5_0 rfl (lv_at hl 0 rfl) ?_
  refine lv_iload_n hx hb dJ_max_7cf5_1 rfl (lv_at hl 1 rfl) ?_
  refine zz_ilt (tgt := 9) hx hb dJ_max_7cf5_2 (by decide) (fun h1 => ?_) (fun h1 => ?_)
  · refine lv_iload_n hx hb dJ_max_7cf5_9 rfl (lv_at hl 1 rfl) ?_
    exact zz_iret hx hb hr hlocks dJ_max_7cf5_10 (by first | rfl | exact (if_pos h1).symm | exact (if_neg h1).symm)
  · refine lv_iload_n hx hb dJ_max_7cf5_5 rfl (lv_at hl 0 rfl) ?_
    refine lv_goto (tgt := 10) hx hb dJ_max_7cf5_6 (by decide) ?_
    exact zz_iret hx hb hr hlocks dJ_max_7cf5_10 (by first | rfl | exact (if_pos h1).symm | exact (if_neg h1).symm)
set_option maxHeartbeats 4000000 in
set_option maxRecDepth 100000 in
theorem ct_J_min_7cf5 (l : Launch) {x y : Int32} : Met l yJ_min_7cf5 [Cond.code yJ_min_7cf5 cJ_min_7cf5 2 (some .int)] { frames := 0, cells := 0, slots := 0, locals := 0 } (va_Pc [.int x, .int y] zt_TB) (zz_Q (.int (zn_mini x y))) 0 0 (fun _ => False) := by
  refine va_MetF (cc := cJ_min_7cf5) (maxL := 2) (ret := (some .int)) (by decide +kernel) rfl ?_
  intro p e s m args below meth c s₁ B hml hv
  obtain ⟨rfl, hT⟩ := hv
  have hx := B.exec
  have hb := B.bytes
  have hr := B.returns
  have hlocks := B.notSynchronized
  have hown : s.vm.findClass RJ = some m.cls := findClass_of_methodNamed B.named
  have hl := lv_entry ([.int x, .int y]) (n := 2) (Nat.le_of_ble_eq_true rfl)
  rw [lg_entry_eq]
  generalize (lg_sl ([.int x, .int y]) ++ List.replicate (2 - (lg_sl ([.int x, .int y])).length) Slot.unset).toArray = ls at hl ⊢
  have hl : lv_has ls 2 [(0, .int x), (1, .int y)] := hl
  refine lv_iload_n hx hb dJ_min_7cf5_0 rfl (lv_at hl 0 rfl) ?_
  refine lv_iload_n hx hb dJ_min_7cf5_1 rfl (lv_at hl 1 rfl) ?_
  refine zz_igt (tgt := 9) hx hb dJ_min_7cf5_2 (by decide) (fun h1 => ?_) (fun h1 => ?_)
  · refine lv_iload_n hx hb dJ_min_7cf5_9 rfl (lv_at hl 1 rfl) ?_
    exact zz_iret hx hb hr hlocks dJ_min_7cf5_10 (by first | rfl | exact (if_pos h1).symm | exact (if_neg h1).symm)
  · refine lv_iload_n hx hb dJ_min_7cf5_5 rfl (lv_at hl 0 rfl) ?_
    refine lv_goto (tgt := 10) hx hb dJ_min_7cf5_6 (by decide) ?_
    exact zz_iret hx hb hr hlocks dJ_min_7cf5_10 (by first | rfl | exact (if_pos h1).symm | exact (if_neg h1).symm)
set_option maxHeartbeats 4000000 in
set_option maxRecDepth 100000 in
theorem ct_J_abs (l : Launch) {x : Int64} : Met l yJ_abs [Cond.code yJ_abs cJ_abs 2 (some .long)] { frames := 0, cells := 0, slots := 0, locals := 0 } (va_Pc [.long x] zt_TB) (zz_Q (.long (zn_abs x))) 0 0 (fun _ => False) := by
  refine va_MetF (cc := cJ_abs) (maxL := 2) (ret := (some .long)) (by decide +kernel) rfl ?_
  intro p e s m args below meth c s₁ B hml hv
  obtain ⟨rfl, hT⟩ := hv
  have hx := B.exec
  have hb := B.bytes
  have hr := B.returns
  have hlocks := B.notSynchronized
  have hown : s.vm.findClass RJ = some m.cls := findClass_of_methodNamed B.named
  have hl := lv_entry ([.long x]) (n := 2) (Nat.le_of_ble_eq_true rfl)
  rw [lg_entry_eq]
  generalize (lg_sl ([.long x]) ++ List.replicate (2 - (lg_sl ([.long x])).length) Slot.unset).toArray = ls at hl ⊢
  have hl : lv_has ls 2 [(0, .long x)] := hl
  refine lv_lload_n hx hb dJ_abs_0 rfl (lv_at hl 0 rfl) ?_
  refine lv_lconst (v := 0) hx hb dJ_abs_1 (by decide) ?_
  refine zz_lge (tgt := 11) hx hb dJ_abs_2 dJ_abs_3 (by decide) (fun h1 => ?_) (fun h1 => ?_)
  · refine lv_lload_n hx hb dJ_abs_11 rfl (lv_at hl 0 rfl) ?_
    exact zz_lret hx hb hr hlocks dJ_abs_12 (by first | rfl | exact (if_pos h1).symm | exact (if_neg h1).symm)
  · refine lv_lload_n hx hb dJ_abs_6 rfl (lv_at hl 0 rfl) ?_
    refine lv_lneg hx hb dJ_abs_7 ?_
    refine lv_goto (tgt := 12) hx hb dJ_abs_8 (by decide) ?_
    exact zz_lret hx hb hr hlocks dJ_abs_12 (by first | rfl | exact (if_pos h1).symm | exact (if_neg h1).symm)
set_option maxHeartbeats 4000000 in
set_option maxRecDepth 100000 in
theorem ct_J_floorDiv (l : Launch) {x y : Int64} (hy : ¬ y = 0) : Met l yJ_floorDiv [Cond.code yJ_floorDiv cJ_floorDiv 6 (some .long)] { frames := 0, cells := 0, slots := 0, locals := 0 } (va_Pc [.long x, .long y] zt_TB) (zz_Q (.long (zn_fd x y))) 0 0 (fun _ => False) := by
  refine va_MetF (cc := cJ_floorDiv) (maxL := 6) (ret := (some .long)) (by decide +kernel) rfl ?_
  intro p e s m args below meth c s₁ B hml hv
  obtain ⟨rfl, hT⟩ := hv
  have hx := B.exec
  have hb := B.bytes
  have hr := B.returns
  have hlocks := B.notSynchronized
  have hown : s.vm.findClass RJ = some m.cls := findClass_of_methodNamed B.named
  have hl := lv_entry ([.long x, .long y]) (n := 6) (Nat.le_of_ble_eq_true rfl)
  rw [lg_entry_eq]
  generalize (lg_sl ([.long x, .long y]) ++ List.replicate (6 - (lg_sl ([.long x, .long y])).length) Slot.unset).toArray = ls at hl ⊢
  have hl : lv_has ls 6 [(0, .long x), (2, .long y)] := hl
  refine lv_lload_n hx hb dJ_floorDiv_0 rfl (lv_at hl 0 rfl) ?_
  refine lv_lload_n hx hb dJ_floorDiv_1 rfl (lv_at hl 1 rfl) ?_
  refine lv_ldiv hx hb dJ_floorDiv_2 hy ?_
  refine lv_lstore (lv' := [(4, .long (x / y)), (0, .long x), (2, .long y)]) hx hb dJ_floorDiv_3 hl (by decide) rfl (fun ls hl => ?_)
  refine lv_lload_n hx hb dJ_floorDiv_5 rfl (lv_at hl 1 rfl) ?_
  refine lv_lload_n hx hb dJ_floorDiv_6 rfl (lv_at hl 2 rfl) ?_
  refine lv_lxor hx hb dJ_floorDiv_7 ?_
  refine lv_lconst (v := 0) hx hb dJ_floorDiv_8 (by decide) ?_
  refine zz_lge (tgt := 27) hx hb dJ_floorDiv_9 dJ_floorDiv_10 (by decide) (fun h1 => ?_) (fun h1 => ?_)
  · refine lv_lload hx hb dJ_floorDiv_27 (lv_at hl 0 rfl) ?_
    exact zz_lret hx hb hr hlocks dJ_floorDiv_29 (by unfold zn_fd; first | (rw [if_neg (fun q => h1 q.1)]; done) | (rw [if_neg (fun q => q.2 h2)]; done) | (rw [if_pos ⟨h1, h2⟩]; done))
  · refine lv_lload hx hb dJ_floorDiv_13 (lv_at hl 0 rfl) ?_
    refine lv_lload_n hx hb dJ_floorDiv_15 rfl (lv_at hl 2 rfl) ?_
    refine lv_lmul hx hb dJ_floorDiv_16 ?_
    refine lv_lload_n hx hb dJ_floorDiv_17 rfl (lv_at hl 1 rfl) ?_
    refine zz_leq (tgt := 27) hx hb dJ_floorDiv_18 dJ_floorDiv_19 (by decide) (fun h2 => ?_) (fun h2 => ?_)
    · refine lv_lload hx hb dJ_floorDiv_27 (lv_at hl 0 rfl) ?_
      exact zz_lret hx hb hr hlocks dJ_floorDiv_29 (by unfold zn_fd; first | (rw [if_neg (fun q => h1 q.1)]; done) | (rw [if_neg (fun q => q.2 h2)]; done) | (rw [if_pos ⟨h1, h2⟩]; done))
    · refine lv_lload hx hb dJ_floorDiv_22 (lv_at hl 0 rfl) ?_
      refine lv_lconst (v := 1) hx hb dJ_floorDiv_24 (by decide) ?_
      refine lv_lsub hx hb dJ_floorDiv_25 ?_
      exact zz_lret hx hb hr hlocks dJ_floorDiv_26 (by unfold zn_fd; first | (rw [if_neg (fun q => h1 q.1)]; done) | (rw [if_neg (fun q => q.2 h2)]; done) | (rw [if_pos ⟨h1, h2⟩]; done))
set_option maxHeartbeats 4000000 in
set_option maxRecDepth 100000 in
theorem ct_I_bitCount (l : Launch) {x : Int32} : Met l yI_bitCount [Cond.code yI_bitCount cI_bitCount 1 (some .int)] { frames := 0, cells := 0, slots := 0, locals := 0 } (va_Pc [.int x] zt_TB) (zz_Q (.int (zn_bc x))) 0 0 (fun _ => False) := by
  refine Met.ofW (cc := cI_bitCount) (maxL := 1) (ret := (some .int)) (by decide) rfl ?_
  intro p e s m args below meth c s₁ B hml hv
  obtain ⟨rfl, hT⟩ := hv
  have hx := B.exec
  have hb := B.bytes
  have hr := B.returns
  have hlocks := B.notSynchronized
  have hown : s.vm.findClass RI = some m.cls := findClass_of_methodNamed B.named
  have hl := lv_entry ([.int x]) (n := 1) (Nat.le_of_ble_eq_true rfl)
  rw [lg_entry_eq]
  generalize (lg_sl ([.int x]) ++ List.replicate (1 - (lg_sl ([.int x])).length) Slot.unset).toArray = ls at hl ⊢
  have hl : lv_has ls 1 [(0, .int x)] := hl
  refine lv_iload_n hx hb dI_bitCount_0 rfl (lv_at hl 0 rfl) ?_
  refine lv_iload_n hx hb dI_bitCount_1 rfl (lv_at hl 0 rfl) ?_
  refine lv_iconst (v := 1) hx hb dI_bitCount_2 (by decide) ?_
  refine lv_iushr (v := (Int32.toUInt32 x >>> (Int32.toUInt32 1 &&& Int32.toUInt32 31)).toInt32) hx hb dI_bitCount_3 rfl ?_
  refine lv_ldcw (own := RI) (v := 1431655765) hx hb hown (hT.w tw_207) dI_bitCount_4 ?_
  refine lv_iand hx hb dI_bitCount_7 ?_
  refine lv_isub hx hb dI_bitCount_8 ?_
  refine lv_topi (fun v1 e1 => ?_)
  refine lv_istore_n (lv' := [(0, .int v1)]) hx hb dI_bitCount_9 rfl hl (by decide) rfl (fun ls hl => ?_)
  refine lv_iload_n hx hb dI_bitCount_10 rfl (lv_at hl 0 rfl) ?_
  refine lv_ldcw (own := RI) (v := 858993459) hx hb hown (hT.w tw_208) dI_bitCount_11 ?_
  refine lv_iand hx hb dI_bitCount_14 ?_
  refine lv_iload_n hx hb dI_bitCount_15 rfl (lv_at hl 0 rfl) ?_
  refine lv_iconst (v := 2) hx hb dI_bitCount_16 (by decide) ?_
  refine lv_iushr (v := (Int32.toUInt32 v1 >>> (Int32.toUInt32 2 &&& Int32.toUInt32 31)).toInt32) hx hb dI_bitCount_17 rfl ?_
  refine lv_ldcw (own := RI) (v := 858993459) hx hb hown (hT.w tw_208) dI_bitCount_18 ?_
  refine lv_iand hx hb dI_bitCount_21 ?_
  refine lv_iadd hx hb dI_bitCount_22 ?_
  refine lv_topi (fun v2 e2 => ?_)
  refine lv_istore_n (lv' := [(0, .int v2)]) hx hb dI_bitCount_23 rfl hl (by decide) rfl (fun ls hl => ?_)
  refine lv_iload_n hx hb dI_bitCount_24 rfl (lv_at hl 0 rfl) ?_
  refine lv_iload_n hx hb dI_bitCount_25 rfl (lv_at hl 0 rfl) ?_
  refine lv_iconst (v := 4) hx hb dI_bitCount_26 (by decide) ?_
  refine lv_iushr (v := (Int32.toUInt32 v2 >>> (Int32.toUInt32 4 &&& Int32.toUInt32 31)).toInt32) hx hb dI_bitCount_27 rfl ?_
  refine lv_iadd hx hb dI_bitCount_28 ?_
  refine lv_ldcw (own := RI) (v := 252645135) hx hb hown (hT.w tw_209) dI_bitCount_29 ?_
  refine lv_iand hx hb dI_bitCount_32 ?_
  refine lv_topi (fun v3 e3 => ?_)
  refine lv_istore_n (lv' := [(0, .int v3)]) hx hb dI_bitCount_33 rfl hl (by decide) rfl (fun ls hl => ?_)
  refine lv_iload_n hx hb dI_bitCount_34 rfl (lv_at hl 0 rfl) ?_
  refine lv_iload_n hx hb dI_bitCount_35 rfl (lv_at hl 0 rfl) ?_
  refine lv_bipush (v := 8) hx hb dI_bitCount_36 (by decide) ?_
  refine lv_iushr (v := (Int32.toUInt32 v3 >>> (Int32.toUInt32 8 &&& Int32.toUInt32 31)).toInt32) hx hb dI_bitCount_38 rfl ?_
  refine lv_iadd hx hb dI_bitCount_39 ?_
  refine lv_topi (fun v4 e4 => ?_)
  refine lv_istore_n (lv' := [(0, .int v4)]) hx hb dI_bitCount_40 rfl hl (by decide) rfl (fun ls hl => ?_)
  refine lv_iload_n hx hb dI_bitCount_41 rfl (lv_at hl 0 rfl) ?_
  refine lv_iload_n hx hb dI_bitCount_42 rfl (lv_at hl 0 rfl) ?_
  refine lv_bipush (v := 16) hx hb dI_bitCount_43 (by decide) ?_
  refine lv_iushr (v := (Int32.toUInt32 v4 >>> (Int32.toUInt32 16 &&& Int32.toUInt32 31)).toInt32) hx hb dI_bitCount_45 rfl ?_
  refine lv_iadd hx hb dI_bitCount_46 ?_
  refine lv_topi (fun v5 e5 => ?_)
  refine lv_istore_n (lv' := [(0, .int v5)]) hx hb dI_bitCount_47 rfl hl (by decide) rfl (fun ls hl => ?_)
  refine lv_iload_n hx hb dI_bitCount_48 rfl (lv_at hl 0 rfl) ?_
  refine lv_bipush (v := 63) hx hb dI_bitCount_49 (by decide) ?_
  refine lv_iand hx hb dI_bitCount_51 ?_
  exact zz_iret hx hb hr hlocks dI_bitCount_52 (by subst e5; subst e4; subst e3; subst e2; subst e1; rfl)
end
section
/-! Readings of a server -/
set_option maxHeartbeats 4000000 in
set_option maxRecDepth 100000 in
theorem ct_S_distanceOf (l : Launch) {dC : Nat → ClassId} {dI : Nat → Nat → Nat} {cJ cI cB cZ cS : ClassId} {o a b d : Nat} {den rch pol exg str : Int32} {xp rdl rds : Int64} {off del arr : Nat → Int64} {n : Nat} {i : Nat} {now : Int64} (hi : i < 8) : Met l yS_distanceOf [Cond.code yS_distanceOf cS_distanceOf 6 (some .long)] { frames := 1, cells := 0, slots := 0, locals := 25 } (va_Pc [.ref o, .int (nI i), .long now] (zz_B (dC, dI) vcl (zz_T cJ cI cB cZ cS) (zs_W o a b d cJ den rch pol exg xp (nI n) str rdl rds off del arr))) (zz_Q (.long (zs_dist del arr now i))) 0 0 (fun _ => False) := by
  refine Met.ofW (cc := cS_distanceOf) (maxL := 6) (ret := (some .long)) (by decide) rfl ?_
  intro p e s m args below meth c s₁ B hml hv
  obtain ⟨rfl, hT, hP, hK⟩ := hv
  have hx := B.exec
  have hb := B.bytes
  have hr := B.returns
  have hlocks := B.notSynchronized
  have hown : s.vm.findClass RS = some m.cls := findClass_of_methodNamed B.named
  have hl := lv_entry ([.ref o, .int (nI i), .long now]) (n := 6) (Nat.le_of_ble_eq_true rfl)
  rw [lg_entry_eq]
  generalize (lg_sl ([.ref o, .int (nI i), .long now]) ++ List.replicate (6 - (lg_sl ([.ref o, .int (nI i), .long now])).length) Slot.unset).toArray = ls at hl ⊢
  have hl : lv_has ls 6 [(0, .ref o), (1, .int (nI i)), (2, .long now)] := hl
  refine lv_lload_n hx hb dS_distanceOf_0 rfl (lv_at hl 2 rfl) ?_
  refine lv_aload_n hx hb dS_distanceOf_1 rfl (lv_at hl 0 rfl) ?_
  refine zz_getS hx hb hT hown hK hP 0 rfl 11 (by decide) tw_63 rfl dS_distanceOf_2 ?_
  refine lv_iload_n hx hb dS_distanceOf_5 rfl (lv_at hl 1 rfl) ?_
  refine zz_lald hx hb hK hP 3 0 rfl rfl i rfl (by first | omega | decide | assumption) (by decide) dS_distanceOf_6 ?_
  refine lv_lsub hx hb dS_distanceOf_7 ?_
  refine lv_lstore (lv' := [(4, .long (now - (arr i))), (0, .ref o), (1, .int (nI i)), (2, .long now)]) hx hb dS_distanceOf_8 hl (by decide) rfl (fun ls hl => ?_)
  refine lv_aload_n hx hb dS_distanceOf_10 rfl (lv_at hl 1 rfl) ?_
  refine zz_getS hx hb hT hown hK hP 0 rfl 10 (by decide) tw_62 rfl dS_distanceOf_11 ?_
  refine lv_iload_n hx hb dS_distanceOf_14 rfl (lv_at hl 2 rfl) ?_
  refine zz_lald hx hb hK hP 2 0 rfl rfl i rfl (by first | omega | decide | assumption) (by decide) dS_distanceOf_15 ?_
  refine lv_ldc2 (own := RS) (v := 2) hx hb hown (hT.w tw_172) dS_distanceOf_16 ?_
  refine lv_ldiv hx hb dS_distanceOf_19 (by decide) ?_
  refine lv_ldc2 (own := RS) (v := 65536) hx hb hown (hT.w tw_173) dS_distanceOf_20 ?_
  refine lv_ladd hx hb dS_distanceOf_23 ?_
  refine lv_lload hx hb dS_distanceOf_24 (lv_at hl 0 rfl) ?_
  refine lv_ldc2 (own := RS) (v := 65536) hx hb hown (hT.w tw_173) dS_distanceOf_26 ?_
  refine zz_call (va_runS (Ts := []) (As := [.long (now - (arr i)), .long 65536]) (own := RS) ⟨hx, hb, hml, hown, fun _ h => nomatch h⟩ (ct_J_floorDiv l (by decide)) (zt_cs hT tc_J_floorDiv ts_J_floorDiv tw_174 ⟨Nat.le_of_ble_eq_true rfl, Nat.le_of_ble_eq_true rfl⟩) (zz_pre0 hT) rfl rfl hl.1 rfl (lv_room (Nat.le_of_ble_eq_true rfl)) dS_distanceOf_29 ⟨Nat.zero_le _, Nat.zero_le _⟩) ?_
  refine lv_ladd hx hb dS_distanceOf_32 ?_
  exact zz_lret hx hb hr hlocks dS_distanceOf_33 (rfl)
set_option maxHeartbeats 4000000 in
set_option maxRecDepth 100000 in
theorem ct_S_bestAt (l : Launch) {dC : Nat → ClassId} {dI : Nat → Nat → Nat} {cJ cI cB cZ cS : ClassId} {o a b d : Nat} {den rch pol exg str : Int32} {xp rdl rds : Int64} {off del arr : Nat → Int64} {n : Nat} {now : Int64} (hn1 : 1 ≤ n) (hn : n ≤ 8) : Met l yS_bestAt [Cond.code yS_bestAt cS_bestAt 5 (some .int)] { frames := 2, cells := 0, slots := 0, locals := 50 } (va_Pc [.ref o, .long now] (zz_B (dC, dI) vcl (zz_T cJ cI cB cZ cS) (zs_W o a b d cJ den rch pol exg xp (nI n) str rdl rds off del arr))) (zz_Q (.int (nI (zs_at del arr now n)))) 0 0 (fun _ => False) := by
  refine Met.ofW (cc := cS_bestAt) (maxL := 5) (ret := (some .int)) (by decide) rfl ?_
  intro p e s m args below meth c s₁ B hml hv
  obtain ⟨rfl, hT, hP, hK⟩ := hv
  have hx := B.exec
  have hb := B.bytes
  have hr := B.returns
  have hlocks := B.notSynchronized
  have hown : s.vm.findClass RS = some m.cls := findClass_of_methodNamed B.named
  have hl := lv_entry ([.ref o, .long now]) (n := 5) (Nat.le_of_ble_eq_true rfl)
  rw [lg_entry_eq]
  generalize (lg_sl ([.ref o, .long now]) ++ List.replicate (5 - (lg_sl ([.ref o, .long now])).length) Slot.unset).toArray = ls at hl ⊢
  have hl : lv_has ls 5 [(0, .ref o), (1, .long now)] := hl
  refine lv_iconst (v := 0) hx hb dS_bestAt_0 (by decide) ?_
  refine lv_istore_n (lv' := [(3, .int 0), (0, .ref o), (1, .long now)]) hx hb dS_bestAt_1 rfl hl (by decide) rfl (fun ls hl => ?_)
  refine lv_iconst (v := 1) hx hb dS_bestAt_2 (by decide) ?_
  refine lv_istore (lv' := [(4, .int 1), (3, .int 0), (0, .ref o), (1, .long now)]) hx hb dS_bestAt_3 hl (by decide) rfl (fun ls hl => ?_)
  have lp : ∀ (k9 : Nat) (i : Nat), n - i < k9 → 1 ≤ i → i ≤ n → ∀ ls : Array Slot, lv_has ls 5 [(0, .ref o), (1, .long now), (3, .int (nI (zs_at del arr now i))), (4, .int (nI i))] → W p l e ({ frames := 2, cells := 0, slots := 0, locals := 50 } : Room) s m ([.ref o, .long now] : List Value).toArray below meth c s.heap [] 0 0 (MQ below (zz_Q (.int (nI (zs_at del arr now n)))) ([.ref o, .long now] : List Value).toArray s 0 0 (fun _ => False)) (F0 m 5 ls []) := by
    intro k9
    induction k9 with
    | zero => intro i hk9; exact absurd hk9 (Nat.not_lt_zero _)
    | succ k9 ih_lp =>
      intro i hk9 hi1 hi ls hl
      refine lv_iload hx hb dS_bestAt_5 (lv_at hl 3 rfl) ?_
      refine lv_aload_n hx hb dS_bestAt_7 rfl (lv_at hl 0 rfl) ?_
      refine zz_getS hx hb hT hown hK hP 0 rfl 5 (by decide) tw_54 rfl dS_bestAt_8 ?_
      refine zz_ige (tgt := 40) hx hb dS_bestAt_11 (by decide) (fun h1 => ?_) (fun h1 => ?_)
      · have h1n := mt (zz_ltN (a := i) (b := n) rfl rfl (by omega) (by omega)).mpr h1
        refine lv_iload_n hx hb dS_bestAt_40 rfl (lv_at hl 2 rfl) ?_
        exact zz_iret hx hb hr hlocks dS_bestAt_41 (by rw [show i = n from by omega])
      · have h1n := (zz_ltN (a := i) (b := n) rfl rfl (by omega) (by omega)).mp h1
        refine lv_aload_n hx hb dS_bestAt_14 rfl (lv_at hl 0 rfl) ?_
        refine lv_iload hx hb dS_bestAt_15 (lv_at hl 3 rfl) ?_
        refine lv_lload_n hx hb dS_bestAt_17 rfl (lv_at hl 1 rfl) ?_
        refine zz_call (va_runV (Ts := []) (As := [.int (nI i), .long now]) (own := RS) ⟨hx, hb, hml, hown, fun _ h => nomatch h⟩ (ct_S_distanceOf l (i := i) (by first | omega | exact zs_best_lt _ (by omega))) (zt_cv hT tc_S_distanceOf tv_S_distanceOf tw_168 ⟨Nat.le_of_ble_eq_true rfl, Nat.le_of_ble_eq_true rfl⟩) (zz_preV (q0 := 0) hT hP hK rfl rfl) rfl rfl hl.1 rfl (lv_room (Nat.le_of_ble_eq_true rfl)) dS_bestAt_18 ⟨Nat.zero_le _, Nat.zero_le _⟩) ?_
        refine lv_aload_n hx hb dS_bestAt_21 rfl (lv_at hl 0 rfl) ?_
        refine lv_iload_n hx hb dS_bestAt_22 rfl (lv_at hl 2 rfl) ?_
        refine lv_lload_n hx hb dS_bestAt_23 rfl (lv_at hl 1 rfl) ?_
        refine zz_call (va_runV (Ts := []) (As := [.int (nI (zs_at del arr now i)), .long now]) (own := RS) ⟨hx, hb, hml, hown, fun _ h => nomatch h⟩ (ct_S_distanceOf l (i := (zs_at del arr now i)) (by first | omega | exact zs_best_lt _ (by omega))) (zt_cv hT tc_S_distanceOf tv_S_distanceOf tw_168 ⟨Nat.le_of_ble_eq_true rfl, Nat.le_of_ble_eq_true rfl⟩) (zz_preV (q0 := 0) hT hP hK rfl rfl) rfl rfl hl.1 rfl (lv_room (Nat.le_of_ble_eq_true rfl)) dS_bestAt_24 ⟨Nat.zero_le _, Nat.zero_le _⟩) ?_
        refine zz_lge (tgt := 34) hx hb dS_bestAt_27 dS_bestAt_28 (by decide) (fun h2 => ?_) (fun h2 => ?_)
        · refine lv_iinc (k := 3) (v := nI (i + 1)) (lv' := [(4, .int (nI (i + 1))), (0, .ref o), (1, .long now), (3, .int (nI (zs_at del arr now i)))]) hx hb dS_bestAt_34 hl rfl (nI_succ _).symm (by decide) rfl (fun ls hl => ?_)
          refine lv_goto (tgt := 5) hx hb dS_bestAt_37 (by decide) ?_
          exact ih_lp (i + 1) (by omega) (by omega) (by omega) _ (by rw [show nI (zs_at del arr now (i + 1)) = nI (zs_at del arr now i) from congrArg nI (if_neg h2)]; exact lv_sub hl [1, 2, 3, 0] rfl)
        · refine lv_iload hx hb dS_bestAt_31 (lv_at hl 3 rfl) ?_
          refine lv_istore_n (lv' := [(3, .int (nI i)), (0, .ref o), (1, .long now), (4, .int (nI i))]) hx hb dS_bestAt_33 rfl hl (by decide) rfl (fun ls hl => ?_)
          refine lv_iinc (k := 3) (v := nI (i + 1)) (lv' := [(4, .int (nI (i + 1))), (3, .int (nI i)), (0, .ref o), (1, .long now)]) hx hb dS_bestAt_34 hl rfl (nI_succ _).symm (by decide) rfl (fun ls hl => ?_)
          refine lv_goto (tgt := 5) hx hb dS_bestAt_37 (by decide) ?_
          exact ih_lp (i + 1) (by omega) (by omega) (by omega) _ (by rw [show nI (zs_at del arr now (i + 1)) = nI i from congrArg nI (if_pos h2)]; exact lv_sub hl [2, 3, 1, 0] rfl)
  exact lp (n - 1 + 1) 1 (by omega) (Nat.le_refl _) hn1 _ (by rw [show nI (zs_at del arr now 1) = 0 from congrArg nI (zs_best_1 _)]; rw [show nI 1 = 1 from rfl]; exact lv_sub hl [2, 3, 1, 0] rfl)
set_option maxHeartbeats 4000000 in
set_option maxRecDepth 100000 in
theorem ct_S_farthestFrom (l : Launch) {dC : Nat → ClassId} {dI : Nat → Nat → Nat} {cJ cI cB cZ cS : ClassId} {o a b d : Nat} {den rch pol exg str : Int32} {xp rdl rds : Int64} {off del arr : Nat → Int64} {n : Nat} {mid : Int64} (hn : n ≤ 8) : Met l yS_farthestFrom [Cond.code yS_farthestFrom cS_farthestFrom 6 (some .long)] { frames := 1, cells := 0, slots := 0, locals := 23 } (va_Pc [.ref o, .long mid] (zz_B (dC, dI) vcl (zz_T cJ cI cB cZ cS) (zs_W o a b d cJ den rch pol exg xp (nI n) str rdl rds off del arr))) (zz_Q (.long (zs_far off mid n))) 0 0 (fun _ => False) := by
  refine Met.ofW (cc := cS_farthestFrom) (maxL := 6) (ret := (some .long)) (by decide) rfl ?_
  intro p e s m args below meth c s₁ B hml hv
  obtain ⟨rfl, hT, hP, hK⟩ := hv
  have hx := B.exec
  have hb := B.bytes
  have hr := B.returns
  have hlocks := B.notSynchronized
  have hown : s.vm.findClass RS = some m.cls := findClass_of_methodNamed B.named
  have hl := lv_entry ([.ref o, .long mid]) (n := 6) (Nat.le_of_ble_eq_true rfl)
  rw [lg_entry_eq]
  generalize (lg_sl ([.ref o, .long mid]) ++ List.replicate (6 - (lg_sl ([.ref o, .long mid])).length) Slot.unset).toArray = ls at hl ⊢
  have hl : lv_has ls 6 [(0, .ref o), (1, .long mid)] := hl
  refine lv_lconst (v := 0) hx hb dS_farthestFrom_0 (by decide) ?_
  refine lv_lstore_n (lv' := [(3, .long 0), (0, .ref o), (1, .long mid)]) hx hb dS_farthestFrom_1 rfl hl (by decide) rfl (fun ls hl => ?_)
  refine lv_iconst (v := 0) hx hb dS_farthestFrom_2 (by decide) ?_
  refine lv_istore (lv' := [(5, .int 0), (3, .long 0), (0, .ref o), (1, .long mid)]) hx hb dS_farthestFrom_3 hl (by decide) rfl (fun ls hl => ?_)
  have lp : ∀ (k9 : Nat) (i : Nat), n - i < k9 → i ≤ n → ∀ ls : Array Slot, lv_has ls 6 [(0, .ref o), (1, .long mid), (3, .long (zs_far off mid i)), (5, .int (nI i))] → W p l e ({ frames := 1, cells := 0, slots := 0, locals := 23 } : Room) s m ([.ref o, .long mid] : List Value).toArray below meth c s.heap [] 0 0 (MQ below (zz_Q (.long (zs_far off mid n))) ([.ref o, .long mid] : List Value).toArray s 0 0 (fun _ => False)) (F0 m 5 ls []) := by
    intro k9
    induction k9 with
    | zero => intro i hk9; exact absurd hk9 (Nat.not_lt_zero _)
    | succ k9 ih_lp =>
      intro i hk9 hi ls hl
      refine lv_iload hx hb dS_farthestFrom_5 (lv_at hl 3 rfl) ?_
      refine lv_aload_n hx hb dS_farthestFrom_7 rfl (lv_at hl 0 rfl) ?_
      refine zz_getS hx hb hT hown hK hP 0 rfl 5 (by decide) tw_54 rfl dS_farthestFrom_8 ?_
      refine zz_ige (tgt := 37) hx hb dS_farthestFrom_11 (by decide) (fun h1 => ?_) (fun h1 => ?_)
      · have h1n := mt (zz_ltN (a := i) (b := n) rfl rfl (by omega) (by omega)).mpr h1
        refine lv_lload_n hx hb dS_farthestFrom_37 rfl (lv_at hl 2 rfl) ?_
        exact zz_lret hx hb hr hlocks dS_farthestFrom_38 (by rw [show i = n from by omega])
      · have h1n := (zz_ltN (a := i) (b := n) rfl rfl (by omega) (by omega)).mp h1
        refine lv_lload_n hx hb dS_farthestFrom_14 rfl (lv_at hl 2 rfl) ?_
        refine lv_aload_n hx hb dS_farthestFrom_15 rfl (lv_at hl 0 rfl) ?_
        refine zz_getS hx hb hT hown hK hP 0 rfl 9 (by decide) tw_61 rfl dS_farthestFrom_16 ?_
        refine lv_iload hx hb dS_farthestFrom_19 (lv_at hl 3 rfl) ?_
        refine zz_lald hx hb hK hP 1 0 rfl rfl i rfl (by first | omega | decide | assumption) (by decide) dS_farthestFrom_21 ?_
        refine lv_lload_n hx hb dS_farthestFrom_22 rfl (lv_at hl 1 rfl) ?_
        refine lv_lsub hx hb dS_farthestFrom_23 ?_
        refine zz_call (va_runS (Ts := []) (As := [.long ((off i) - mid)]) (own := RS) ⟨hx, hb, hml, hown, fun _ h => nomatch h⟩ (ct_J_abs l) (zt_cs hT tc_J_abs ts_J_abs tw_185 ⟨Nat.le_of_ble_eq_true rfl, Nat.le_of_ble_eq_true rfl⟩) (zz_pre0 hT) rfl rfl hl.1 rfl (lv_room (Nat.le_of_ble_eq_true rfl)) dS_farthestFrom_24 ⟨Nat.zero_le _, Nat.zero_le _⟩) ?_
        refine zz_call (va_runS (Ts := []) (As := [.long (zs_far off mid i), .long (zn_abs ((off i) - mid))]) (own := RS) ⟨hx, hb, hml, hown, fun _ h => nomatch h⟩ (ct_J_max_f86c l) (zt_cs hT tc_J_max_f86c ts_J_max_f86c tw_188 ⟨Nat.le_of_ble_eq_true rfl, Nat.le_of_ble_eq_true rfl⟩) (zz_pre0 hT) rfl rfl hl.1 rfl (lv_room (Nat.le_of_ble_eq_true rfl)) dS_farthestFrom_27 ⟨Nat.zero_le _, Nat.zero_le _⟩) ?_
        refine lv_lstore_n (lv' := [(3, .long (zn_max (zs_far off mid i) (zn_abs ((off i) - mid)))), (0, .ref o), (1, .long mid), (5, .int (nI i))]) hx hb dS_farthestFrom_30 rfl hl (by decide) rfl (fun ls hl => ?_)
        refine lv_iinc (k := 3) (v := nI (i + 1)) (lv' := [(5, .int (nI (i + 1))), (3, .long (zn_max (zs_far off mid i) (zn_abs ((off i) - mid)))), (0, .ref o), (1, .long mid)]) hx hb dS_farthestFrom_31 hl rfl (nI_succ _).symm (by decide) rfl (fun ls hl => ?_)
        refine lv_goto (tgt := 5) hx hb dS_farthestFrom_34 (by decide) ?_
        exact ih_lp (i + 1) (by omega) (by omega) _ (by rw [show zs_far off mid (i + 1) = zn_max (zs_far off mid i) (zn_abs ((off i) - mid)) from rfl]; exact lv_sub hl [2, 3, 1, 0] rfl)
  exact lp (n - 0 + 1) 0 (by omega) (Nat.zero_le _) _ (by rw [show zs_far off mid 0 = 0 from rfl]; rw [show nI 0 = 0 from rfl]; exact lv_sub hl [2, 3, 1, 0] rfl)
set_option maxHeartbeats 4000000 in
set_option maxRecDepth 100000 in
theorem ct_S_bestOffset (l : Launch) {dC : Nat → ClassId} {dI : Nat → Nat → Nat} {cJ cI cB cZ cS : ClassId} {o a b d : Nat} {den rch pol exg str : Int32} {xp rdl rds : Int64} {off del arr : Nat → Int64} {n : Nat} {now : Int64} (hn1 : 1 ≤ n) (hn : n ≤ 8) : Met l yS_bestOffset [Cond.code yS_bestOffset cS_bestOffset 3 (some .long)] { frames := 3, cells := 0, slots := 0, locals := 74 } (va_Pc [.ref o, .long now] (zz_B (dC, dI) vcl (zz_T cJ cI cB cZ cS) (zs_W o a b d cJ den rch pol exg xp (nI n) str rdl rds off del arr))) (zz_Q (.long (off (zs_at del arr now n)))) 0 0 (fun _ => False) := by
  refine Met.ofW (cc := cS_bestOffset) (maxL := 3) (ret := (some .long)) (by decide) rfl ?_
  intro p e s m args below meth c s₁ B hml hv
  obtain ⟨rfl, hT, hP, hK⟩ := hv
  have hx := B.exec
  have hb := B.bytes
  have hr := B.returns
  have hlocks := B.notSynchronized
  have hown : s.vm.findClass RS = some m.cls := findClass_of_methodNamed B.named
  have hl := lv_entry ([.ref o, .long now]) (n := 3) (Nat.le_of_ble_eq_true rfl)
  rw [lg_entry_eq]
  generalize (lg_sl ([.ref o, .long now]) ++ List.replicate (3 - (lg_sl ([.ref o, .long now])).length) Slot.unset).toArray = ls at hl ⊢
  have hl : lv_has ls 3 [(0, .ref o), (1, .long now)] := hl
  refine lv_aload_n hx hb dS_bestOffset_0 rfl (lv_at hl 0 rfl) ?_
  refine zz_getS hx hb hT hown hK hP 0 rfl 9 (by decide) tw_61 rfl dS_bestOffset_1 ?_
  refine lv_aload_n hx hb dS_bestOffset_4 rfl (lv_at hl 0 rfl) ?_
  refine lv_lload_n hx hb dS_bestOffset_5 rfl (lv_at hl 1 rfl) ?_
  refine zz_call (va_runV (Ts := []) (As := [.long now]) (own := RS) ⟨hx, hb, hml, hown, fun _ h => nomatch h⟩ (ct_S_bestAt l hn1 hn) (zt_cv hT tc_S_bestAt tv_S_bestAt tw_164 ⟨Nat.le_of_ble_eq_true rfl, Nat.le_of_ble_eq_true rfl⟩) (zz_preV (q0 := 0) hT hP hK rfl rfl) rfl rfl hl.1 rfl (lv_room (Nat.le_of_ble_eq_true rfl)) dS_bestOffset_6 ⟨Nat.zero_le _, Nat.zero_le _⟩) ?_
  refine zz_lald hx hb hK hP 1 0 rfl rfl (zs_at del arr now n) rfl (zs_best_lt _ hn) (by decide) dS_bestOffset_9 ?_
  exact zz_lret hx hb hr hlocks dS_bestOffset_10 (rfl)
set_option maxHeartbeats 4000000 in
set_option maxRecDepth 100000 in
theorem ct_S_bestDelay (l : Launch) {dC : Nat → ClassId} {dI : Nat → Nat → Nat} {cJ cI cB cZ cS : ClassId} {o a b d : Nat} {den rch pol exg str : Int32} {xp rdl rds : Int64} {off del arr : Nat → Int64} {n : Nat} {now : Int64} (hn1 : 1 ≤ n) (hn : n ≤ 8) : Met l yS_bestDelay [Cond.code yS_bestDelay cS_bestDelay 3 (some .long)] { frames := 3, cells := 0, slots := 0, locals := 74 } (va_Pc [.ref o, .long now] (zz_B (dC, dI) vcl (zz_T cJ cI cB cZ cS) (zs_W o a b d cJ den rch pol exg xp (nI n) str rdl rds off del arr))) (zz_Q (.long (del (zs_at del arr now n)))) 0 0 (fun _ => False) := by
  refine Met.ofW (cc := cS_bestDelay) (maxL := 3) (ret := (some .long)) (by decide) rfl ?_
  intro p e s m args below meth c s₁ B hml hv
  obtain ⟨rfl, hT, hP, hK⟩ := hv
  have hx := B.exec
  have hb := B.bytes
  have hr := B.returns
  have hlocks := B.notSynchronized
  have hown : s.vm.findClass RS = some m.cls := findClass_of_methodNamed B.named
  have hl := lv_entry ([.ref o, .long now]) (n := 3) (Nat.le_of_ble_eq_true rfl)
  rw [lg_entry_eq]
  generalize (lg_sl ([.ref o, .long now]) ++ List.replicate (3 - (lg_sl ([.ref o, .long now])).length) Slot.unset).toArray = ls at hl ⊢
  have hl : lv_has ls 3 [(0, .ref o), (1, .long now)] := hl
  refine lv_aload_n hx hb dS_bestDelay_0 rfl (lv_at hl 0 rfl) ?_
  refine zz_getS hx hb hT hown hK hP 0 rfl 10 (by decide) tw_62 rfl dS_bestDelay_1 ?_
  refine lv_aload_n hx hb dS_bestDelay_4 rfl (lv_at hl 0 rfl) ?_
  refine lv_lload_n hx hb dS_bestDelay_5 rfl (lv_at hl 1 rfl) ?_
  refine zz_call (va_runV (Ts := []) (As := [.long now]) (own := RS) ⟨hx, hb, hml, hown, fun _ h => nomatch h⟩ (ct_S_bestAt l hn1 hn) (zt_cv hT tc_S_bestAt tv_S_bestAt tw_164 ⟨Nat.le_of_ble_eq_true rfl, Nat.le_of_ble_eq_true rfl⟩) (zz_preV (q0 := 0) hT hP hK rfl rfl) rfl rfl hl.1 rfl (lv_room (Nat.le_of_ble_eq_true rfl)) dS_bestDelay_6 ⟨Nat.zero_le _, Nat.zero_le _⟩) ?_
  refine zz_lald hx hb hK hP 2 0 rfl rfl (zs_at del arr now n) rfl (zs_best_lt _ hn) (by decide) dS_bestDelay_9 ?_
  exact zz_lret hx hb hr hlocks dS_bestDelay_10 (rfl)
set_option maxHeartbeats 4000000 in
set_option maxRecDepth 100000 in
theorem ct_S_jitterAt (l : Launch) {dC : Nat → ClassId} {dI : Nat → Nat → Nat} {cJ cI cB cZ cS : ClassId} {o a b d : Nat} {den rch pol exg str : Int32} {xp rdl rds : Int64} {off del arr : Nat → Int64} {n : Nat} {now : Int64} (hn1 : 1 ≤ n) (hn : n ≤ 8) : Met l yS_jitterAt [Cond.code yS_jitterAt cS_jitterAt 3 (some .long)] { frames := 3, cells := 0, slots := 0, locals := 74 } (va_Pc [.ref o, .long now] (zz_B (dC, dI) vcl (zz_T cJ cI cB cZ cS) (zs_W o a b d cJ den rch pol exg xp (nI n) str rdl rds off del arr))) (zz_Q (.long (zs_jit off del arr now n))) 0 0 (fun _ => False) := by
  refine Met.ofW (cc := cS_jitterAt) (maxL := 3) (ret := (some .long)) (by decide) rfl ?_
  intro p e s m args below meth c s₁ B hml hv
  obtain ⟨rfl, hT, hP, hK⟩ := hv
  have hx := B.exec
  have hb := B.bytes
  have hr := B.returns
  have hlocks := B.notSynchronized
  have hown : s.vm.findClass RS = some m.cls := findClass_of_methodNamed B.named
  have hl := lv_entry ([.ref o, .long now]) (n := 3) (Nat.le_of_ble_eq_true rfl)
  rw [lg_entry_eq]
  generalize (lg_sl ([.ref o, .long now]) ++ List.replicate (3 - (lg_sl ([.ref o, .long now])).length) Slot.unset).toArray = ls at hl ⊢
  have hl : lv_has ls 3 [(0, .ref o), (1, .long now)] := hl
  refine lv_aload_n hx hb dS_jitterAt_0 rfl (lv_at hl 0 rfl) ?_
  refine lv_aload_n hx hb dS_jitterAt_1 rfl (lv_at hl 0 rfl) ?_
  refine zz_getS hx hb hT hown hK hP 0 rfl 9 (by decide) tw_61 rfl dS_jitterAt_2 ?_
  refine lv_aload_n hx hb dS_jitterAt_5 rfl (lv_at hl 0 rfl) ?_
  refine lv_lload_n hx hb dS_jitterAt_6 rfl (lv_at hl 1 rfl) ?_
  refine zz_call (va_runV (Ts := []) (As := [.long now]) (own := RS) ⟨hx, hb, hml, hown, fun _ h => nomatch h⟩ (ct_S_bestAt l hn1 hn) (zt_cv hT tc_S_bestAt tv_S_bestAt tw_164 ⟨Nat.le_of_ble_eq_true rfl, Nat.le_of_ble_eq_true rfl⟩) (zz_preV (q0 := 0) hT hP hK rfl rfl) rfl rfl hl.1 rfl (lv_room (Nat.le_of_ble_eq_true rfl)) dS_jitterAt_7 ⟨Nat.zero_le _, Nat.zero_le _⟩) ?_
  refine zz_lald hx hb hK hP 1 0 rfl rfl (zs_at del arr now n) rfl (zs_best_lt _ hn) (by decide) dS_jitterAt_10 ?_
  refine zz_call (va_runV (Ts := []) (As := [.long (off (zs_at del arr now n))]) (own := RS) ⟨hx, hb, hml, hown, fun _ h => nomatch h⟩ (ct_S_farthestFrom l hn) (zt_cv hT tc_S_farthestFrom tv_S_farthestFrom tw_181 ⟨Nat.le_of_ble_eq_true rfl, Nat.le_of_ble_eq_true rfl⟩) (zz_preV (q0 := 0) hT hP hK rfl rfl) rfl rfl hl.1 rfl (lv_room (Nat.le_of_ble_eq_true rfl)) dS_jitterAt_11 ⟨Nat.zero_le _, Nat.zero_le _⟩) ?_
  exact zz_lret hx hb hr hlocks dS_jitterAt_14 (rfl)
set_option maxHeartbeats 4000000 in
set_option maxRecDepth 100000 in
theorem ct_S_rootDistance (l : Launch) {dC : Nat → ClassId} {dI : Nat → Nat → Nat} {cJ cI cB cZ cS : ClassId} {o a b d : Nat} {den rch pol exg str : Int32} {xp rdl rds : Int64} {off del arr : Nat → Int64} {n : Nat} {now : Int64} (hn1 : 1 ≤ n) (hn : n ≤ 8) : Met l yS_rootDistance [Cond.code yS_rootDistance cS_rootDistance 4 (some .long)] { frames := 3, cells := 0, slots := 0, locals := 74 } (va_Pc [.ref o, .long now] (zz_B (dC, dI) vcl (zz_T cJ cI cB cZ cS) (zs_W o a b d cJ den rch pol exg xp (nI n) str rdl rds off del arr))) (zz_Q (.long (zs_root rdl rds off del arr now n))) 0 0 (fun _ => False) := by
  refine Met.ofW (cc := cS_rootDistance) (maxL := 4) (ret := (some .long)) (by decide) rfl ?_
  intro p e s m args below meth c s₁ B hml hv
  obtain ⟨rfl, hT, hP, hK⟩ := hv
  have hx := B.exec
  have hb := B.bytes
  have hr := B.returns
  have hlocks := B.notSynchronized
  have hown : s.vm.findClass RS = some m.cls := findClass_of_methodNamed B.named
  have hl := lv_entry ([.ref o, .long now]) (n := 4) (Nat.le_of_ble_eq_true rfl)
  rw [lg_entry_eq]
  generalize (lg_sl ([.ref o, .long now]) ++ List.replicate (4 - (lg_sl ([.ref o, .long now])).length) Slot.unset).toArray = ls at hl ⊢
  have hl : lv_has ls 4 [(0, .ref o), (1, .long now)] := hl
  refine lv_aload_n hx hb dS_rootDistance_0 rfl (lv_at hl 0 rfl) ?_
  refine lv_lload_n hx hb dS_rootDistance_1 rfl (lv_at hl 1 rfl) ?_
  refine zz_call (va_runV (Ts := []) (As := [.long now]) (own := RS) ⟨hx, hb, hml, hown, fun _ h => nomatch h⟩ (ct_S_bestAt l hn1 hn) (zt_cv hT tc_S_bestAt tv_S_bestAt tw_164 ⟨Nat.le_of_ble_eq_true rfl, Nat.le_of_ble_eq_true rfl⟩) (zz_preV (q0 := 0) hT hP hK rfl rfl) rfl rfl hl.1 rfl (lv_room (Nat.le_of_ble_eq_true rfl)) dS_rootDistance_2 ⟨Nat.zero_le _, Nat.zero_le _⟩) ?_
  refine lv_istore_n (lv' := [(3, .int (nI (zs_at del arr now n))), (0, .ref o), (1, .long now)]) hx hb dS_rootDistance_5 rfl hl (by decide) rfl (fun ls hl => ?_)
  refine lv_aload_n hx hb dS_rootDistance_6 rfl (lv_at hl 1 rfl) ?_
  refine zz_getS hx hb hT hown hK hP 0 rfl 7 (by decide) tw_59 rfl dS_rootDistance_7 ?_
  refine lv_ldc2 (own := RS) (v := 2) hx hb hown (hT.w tw_172) dS_rootDistance_10 ?_
  refine lv_ldiv hx hb dS_rootDistance_13 (by decide) ?_
  refine lv_aload_n hx hb dS_rootDistance_14 rfl (lv_at hl 1 rfl) ?_
  refine lv_iload_n hx hb dS_rootDistance_15 rfl (lv_at hl 0 rfl) ?_
  refine lv_lload_n hx hb dS_rootDistance_16 rfl (lv_at hl 2 rfl) ?_
  refine zz_call (va_runV (Ts := []) (As := [.int (nI (zs_at del arr now n)), .long now]) (own := RS) ⟨hx, hb, hml, hown, fun _ h => nomatch h⟩ (ct_S_distanceOf l (i := (zs_at del arr now n)) (by first | omega | exact zs_best_lt _ (by omega))) (zt_cv hT tc_S_distanceOf tv_S_distanceOf tw_168 ⟨Nat.le_of_ble_eq_true rfl, Nat.le_of_ble_eq_true rfl⟩) (zz_preV (q0 := 0) hT hP hK rfl rfl) rfl rfl hl.1 rfl (lv_room (Nat.le_of_ble_eq_true rfl)) dS_rootDistance_17 ⟨Nat.zero_le _, Nat.zero_le _⟩) ?_
  refine lv_ladd hx hb dS_rootDistance_20 ?_
  refine lv_aload_n hx hb dS_rootDistance_21 rfl (lv_at hl 1 rfl) ?_
  refine zz_getS hx hb hT hown hK hP 0 rfl 8 (by decide) tw_60 rfl dS_rootDistance_22 ?_
  refine lv_ladd hx hb dS_rootDistance_25 ?_
  refine lv_aload_n hx hb dS_rootDistance_26 rfl (lv_at hl 1 rfl) ?_
  refine lv_aload_n hx hb dS_rootDistance_27 rfl (lv_at hl 1 rfl) ?_
  refine zz_getS hx hb hT hown hK hP 0 rfl 9 (by decide) tw_61 rfl dS_rootDistance_28 ?_
  refine lv_iload_n hx hb dS_rootDistance_31 rfl (lv_at hl 0 rfl) ?_
  refine zz_lald hx hb hK hP 1 0 rfl rfl (zs_at del arr now n) rfl (zs_best_lt _ hn) (by decide) dS_rootDistance_32 ?_
  refine zz_call (va_runV (Ts := []) (As := [.long (off (zs_at del arr now n))]) (own := RS) ⟨hx, hb, hml, hown, fun _ h => nomatch h⟩ (ct_S_farthestFrom l hn) (zt_cv hT tc_S_farthestFrom tv_S_farthestFrom tw_181 ⟨Nat.le_of_ble_eq_true rfl, Nat.le_of_ble_eq_true rfl⟩) (zz_preV (q0 := 0) hT hP hK rfl rfl) rfl rfl hl.1 rfl (lv_room (Nat.le_of_ble_eq_true rfl)) dS_rootDistance_33 ⟨Nat.zero_le _, Nat.zero_le _⟩) ?_
  refine lv_ladd hx hb dS_rootDistance_36 ?_
  exact zz_lret hx hb hr hlocks dS_rootDistance_37 (rfl)
end
section
/-! What the packet's readings are -/
def zp_rd (row : Nat → Int32) (u : Nat) : Nat → Int64
  | 0 => 0
  | k + 1 => ((zp_rd row u k) <<< (Int32.toInt64 8 &&& 63)) ||| (Int32.toInt64 ((row (u + k)) &&& 255))
def zp_ans (row : Nat → Int32) : Int32 := if ((((row 0) &&& 255) >>> (3 &&& 31)) &&& 7 = 4 ∧ ((row 0) &&& 255) &&& 7 = 4) ∧ ¬ (zp_rd row 40 8 = 0) then 1 else 0
def zp_syn (row : Nat → Int32) : Int32 := if ¬ (((row 0) &&& 255) >>> (6 &&& 31) = 3) ∧ ¬ (15 < (row 1) &&& 255) then 1 else 0
abbrev zp_W (q r : Nat) (cB : ClassId) (row : Nat → Int32) : va_W := [(q, .inr (0, [.ref r])), (r, .inl (cB, 48, .inl row))]
end
section
/-! Readings of the packet -/
set_option maxHeartbeats 4000000 in
set_option maxRecDepth 100000 in
theorem ct_P_read (l : Launch) {dC : Nat → ClassId} {dI : Nat → Nat → Nat} {cJ cI cB cZ cS : ClassId} {q r : Nat} {row : Nat → Int32} {u n : Nat} (hu : u + n ≤ 48) : Met l yP_read [Cond.code yP_read cP_read 6 (some .long)] { frames := 0, cells := 0, slots := 0, locals := 0 } (va_Pc [.ref q, .int (nI u), .int (nI n)] (zz_B (dC, dI) vcl (zz_T cJ cI cB cZ cS) (zp_W q r cB row))) (zz_Q (.long (zp_rd row u n))) 0 0 (fun _ => False) := by
  refine Met.ofW (cc := cP_read) (maxL := 6) (ret := (some .long)) (by decide) rfl ?_
  intro p e s m args below meth c s₁ B hml hv
  obtain ⟨rfl, hT, hP, hK⟩ := hv
  have hx := B.exec
  have hb := B.bytes
  have hr := B.returns
  have hlocks := B.notSynchronized
  have hown : s.vm.findClass RP = some m.cls := findClass_of_methodNamed B.named
  have hl := lv_entry ([.ref q, .int (nI u), .int (nI n)]) (n := 6) (Nat.le_of_ble_eq_true rfl)
  rw [lg_entry_eq]
  generalize (lg_sl ([.ref q, .int (nI u), .int (nI n)]) ++ List.replicate (6 - (lg_sl ([.ref q, .int (nI u), .int (nI n)])).length) Slot.unset).toArray = ls at hl ⊢
  have hl : lv_has ls 6 [(0, .ref q), (1, .int (nI u)), (2, .int (nI n))] := hl
  refine lv_lconst (v := 0) hx hb dP_read_0 (by decide) ?_
  refine lv_lstore_n (lv' := [(3, .long 0), (0, .ref q), (1, .int (nI u)), (2, .int (nI n))]) hx hb dP_read_1 rfl hl (by decide) rfl (fun ls hl => ?_)
  refine lv_iconst (v := 0) hx hb dP_read_2 (by decide) ?_
  refine lv_istore (lv' := [(5, .int 0), (3, .long 0), (0, .ref q), (1, .int (nI u)), (2, .int (nI n))]) hx hb dP_read_3 hl (by decide) rfl (fun ls hl => ?_)
  have lp : ∀ (k9 : Nat) (i : Nat), n - i < k9 → i ≤ n → ∀ ls : Array Slot, lv_has ls 6 [(0, .ref q), (1, .int (nI u)), (2, .int (nI n)), (3, .long (zp_rd row u i)), (5, .int (nI i))] → W p l e ({ frames := 0, cells := 0, slots := 0, locals := 0 } : Room) s m ([.ref q, .int (nI u), .int (nI n)] : List Value).toArray below meth c s.heap [] 0 0 (MQ below (zz_Q (.long (zp_rd row u n))) ([.ref q, .int (nI u), .int (nI n)] : List Value).toArray s 0 0 (fun _ => False)) (F0 m 5 ls []) := by
    intro k9
    induction k9 with
    | zero => intro i hk9; exact absurd hk9 (Nat.not_lt_zero _)
    | succ k9 ih_lp =>
      intro i hk9 hi ls hl
      refine lv_iload hx hb dP_read_5 (lv_at hl 4 rfl) ?_
      refine lv_iload_n hx hb dP_read_7 rfl (lv_at hl 2 rfl) ?_
      refine zz_ige (tgt := 37) hx hb dP_read_8 (by decide) (fun h1 => ?_) (fun h1 => ?_)
      · have h1n := mt (zz_ltN (a := i) (b := n) rfl rfl (by omega) (by omega)).mpr h1
        refine lv_lload_n hx hb dP_read_37 rfl (lv_at hl 3 rfl) ?_
        exact zz_lret hx hb hr hlocks dP_read_38 (by rw [show i = n from by omega])
      · have h1n := (zz_ltN (a := i) (b := n) rfl rfl (by omega) (by omega)).mp h1
        refine lv_lload_n hx hb dP_read_11 rfl (lv_at hl 3 rfl) ?_
        refine lv_bipush (v := 8) hx hb dP_read_12 (by decide) ?_
        refine lv_lshl (v := (zp_rd row u i) <<< (Int32.toInt64 8 &&& 63)) hx hb dP_read_14 rfl ?_
        refine lv_aload_n hx hb dP_read_15 rfl (lv_at hl 0 rfl) ?_
        refine zz_getP hx hb hT hown hK hP 0 rfl 0 (by decide) tw_30 rfl dP_read_16 ?_
        refine lv_iload_n hx hb dP_read_19 rfl (lv_at hl 1 rfl) ?_
        refine lv_iload hx hb dP_read_20 (lv_at hl 4 rfl) ?_
        refine lv_iadd hx hb dP_read_22 ?_
        refine zz_bald hx hb hK hP 1 2 rfl rfl (u + i) (nI_add _ _) (by first | omega | decide | assumption) (by decide) dP_read_23 ?_
        refine lv_sipush (v := 255) hx hb dP_read_24 (by decide) ?_
        refine lv_iand hx hb dP_read_27 ?_
        refine lv_i2l (v := Int32.toInt64 ((row (u + i)) &&& 255)) hx hb dP_read_28 rfl ?_
        refine lv_lor hx hb dP_read_29 ?_
        refine lv_lstore_n (lv' := [(3, .long (((zp_rd row u i) <<< (Int32.toInt64 8 &&& 63)) ||| (Int32.toInt64 ((row (u + i)) &&& 255)))), (0, .ref q), (1, .int (nI u)), (2, .int (nI n)), (5, .int (nI i))]) hx hb dP_read_30 rfl hl (by decide) rfl (fun ls hl => ?_)
        refine lv_iinc (k := 4) (v := nI (i + 1)) (lv' := [(5, .int (nI (i + 1))), (3, .long (((zp_rd row u i) <<< (Int32.toInt64 8 &&& 63)) ||| (Int32.toInt64 ((row (u + i)) &&& 255)))), (0, .ref q), (1, .int (nI u)), (2, .int (nI n))]) hx hb dP_read_31 hl rfl (nI_succ _).symm (by decide) rfl (fun ls hl => ?_)
        refine lv_goto (tgt := 5) hx hb dP_read_34 (by decide) ?_
        exact ih_lp (i + 1) (by omega) (by omega) _ (by rw [show zp_rd row u (i + 1) = ((zp_rd row u i) <<< (Int32.toInt64 8 &&& 63)) ||| (Int32.toInt64 ((row (u + i)) &&& 255)) from rfl]; exact lv_sub hl [2, 3, 4, 1, 0] rfl)
  exact lp (n - 0 + 1) 0 (by omega) (Nat.zero_le _) _ (by rw [show zp_rd row u 0 = 0 from rfl]; rw [show nI 0 = 0 from rfl]; exact lv_sub hl [2, 3, 4, 1, 0] rfl)
set_option maxHeartbeats 4000000 in
set_option maxRecDepth 100000 in
theorem ct_P_stratum (l : Launch) {dC : Nat → ClassId} {dI : Nat → Nat → Nat} {cJ cI cB cZ cS : ClassId} {q r : Nat} {row : Nat → Int32} : Met l yP_stratum [Cond.code yP_stratum cP_stratum 1 (some .int)] { frames := 0, cells := 0, slots := 0, locals := 0 } (va_Pc [.ref q] (zz_B (dC, dI) vcl (zz_T cJ cI cB cZ cS) (zp_W q r cB row))) (zz_Q (.int ((row 1) &&& 255))) 0 0 (fun _ => False) := by
  refine Met.ofW (cc := cP_stratum) (maxL := 1) (ret := (some .int)) (by decide) rfl ?_
  intro p e s m args below meth c s₁ B hml hv
  obtain ⟨rfl, hT, hP, hK⟩ := hv
  have hx := B.exec
  have hb := B.bytes
  have hr := B.returns
  have hlocks := B.notSynchronized
  have hown : s.vm.findClass RP = some m.cls := findClass_of_methodNamed B.named
  have hl := lv_entry ([.ref q]) (n := 1) (Nat.le_of_ble_eq_true rfl)
  rw [lg_entry_eq]
  generalize (lg_sl ([.ref q]) ++ List.replicate (1 - (lg_sl ([.ref q])).length) Slot.unset).toArray = ls at hl ⊢
  have hl : lv_has ls 1 [(0, .ref q)] := hl
  refine lv_aload_n hx hb dP_stratum_0 rfl (lv_at hl 0 rfl) ?_
  refine zz_getP hx hb hT hown hK hP 0 rfl 0 (by decide) tw_30 rfl dP_stratum_1 ?_
  refine lv_iconst (v := 1) hx hb dP_stratum_4 (by decide) ?_
  refine zz_bald hx hb hK hP 1 2 rfl rfl 1 rfl (by first | omega | decide | assumption) (by decide) dP_stratum_5 ?_
  refine lv_sipush (v := 255) hx hb dP_stratum_6 (by decide) ?_
  refine lv_iand hx hb dP_stratum_9 ?_
  exact zz_iret hx hb hr hlocks dP_stratum_10 (rfl)
set_option maxHeartbeats 4000000 in
set_option maxRecDepth 100000 in
theorem ct_P_isAnswer (l : Launch) {dC : Nat → ClassId} {dI : Nat → Nat → Nat} {cJ cI cB cZ cS : ClassId} {q r : Nat} {row : Nat → Int32} : Met l yP_isAnswer [Cond.code yP_isAnswer cP_isAnswer 2 (some .boolean)] { frames := 1, cells := 0, slots := 0, locals := 25 } (va_Pc [.ref q] (zz_B (dC, dI) vcl (zz_T cJ cI cB cZ cS) (zp_W q r cB row))) (zz_Q (.int (zp_ans row))) 0 0 (fun _ => False) := by
  refine Met.ofW (cc := cP_isAnswer) (maxL := 2) (ret := (some .boolean)) (by decide) rfl ?_
  intro p e s m args below meth c s₁ B hml hv
  obtain ⟨rfl, hT, hP, hK⟩ := hv
  have hx := B.exec
  have hb := B.bytes
  have hr := B.returns
  have hlocks := B.notSynchronized
  have hown : s.vm.findClass RP = some m.cls := findClass_of_methodNamed B.named
  have hl := lv_entry ([.ref q]) (n := 2) (Nat.le_of_ble_eq_true rfl)
  rw [lg_entry_eq]
  generalize (lg_sl ([.ref q]) ++ List.replicate (2 - (lg_sl ([.ref q])).length) Slot.unset).toArray = ls at hl ⊢
  have hl : lv_has ls 2 [(0, .ref q)] := hl
  refine lv_aload_n hx hb dP_isAnswer_0 rfl (lv_at hl 0 rfl) ?_
  refine zz_getP hx hb hT hown hK hP 0 rfl 0 (by decide) tw_30 rfl dP_isAnswer_1 ?_
  refine lv_iconst (v := 0) hx hb dP_isAnswer_4 (by decide) ?_
  refine zz_bald hx hb hK hP 1 2 rfl rfl 0 rfl (by first | omega | decide | assumption) (by decide) dP_isAnswer_5 ?_
  refine lv_sipush (v := 255) hx hb dP_isAnswer_6 (by decide) ?_
  refine lv_iand hx hb dP_isAnswer_9 ?_
  refine lv_istore_n (lv' := [(1, .int ((row 0) &&& 255)), (0, .ref q)]) hx hb dP_isAnswer_10 rfl hl (by decide) rfl (fun ls hl => ?_)
  refine lv_iload_n hx hb dP_isAnswer_11 rfl (lv_at hl 0 rfl) ?_
  refine lv_iconst (v := 3) hx hb dP_isAnswer_12 (by decide) ?_
  refine lv_ishr hx hb dP_isAnswer_13 ?_
  refine lv_bipush (v := 7) hx hb dP_isAnswer_14 (by decide) ?_
  refine lv_iand hx hb dP_isAnswer_16 ?_
  refine lv_iconst (v := 4) hx hb dP_isAnswer_17 (by decide) ?_
  refine zz_ine (tgt := 46) hx hb dP_isAnswer_18 (by decide) (fun h1 => ?_) (fun h1 => ?_)
  · refine lv_iconst (v := 0) hx hb dP_isAnswer_46 (by decide) ?_
    exact zz_bret hx hb hr hlocks dP_isAnswer_47 (by decide) (by unfold zp_ans; first | (rw [if_pos (by grind)]; done) | (rw [if_neg (by grind)]; done))
  · refine lv_iload_n hx hb dP_isAnswer_21 rfl (lv_at hl 0 rfl) ?_
    refine lv_bipush (v := 7) hx hb dP_isAnswer_22 (by decide) ?_
    refine lv_iand hx hb dP_isAnswer_24 ?_
    refine lv_iconst (v := 4) hx hb dP_isAnswer_25 (by decide) ?_
    refine zz_ine (tgt := 46) hx hb dP_isAnswer_26 (by decide) (fun h2 => ?_) (fun h2 => ?_)
    · refine lv_iconst (v := 0) hx hb dP_isAnswer_46 (by decide) ?_
      exact zz_bret hx hb hr hlocks dP_isAnswer_47 (by decide) (by unfold zp_ans; first | (rw [if_pos (by grind)]; done) | (rw [if_neg (by grind)]; done))
    · refine lv_aload_n hx hb dP_isAnswer_29 rfl (lv_at hl 1 rfl) ?_
      refine lv_bipush (v := 40) hx hb dP_isAnswer_30 (by decide) ?_
      refine lv_bipush (v := 8) hx hb dP_isAnswer_32 (by decide) ?_
      refine zz_call (va_runV (Ts := []) (As := [.int 40, .int 8]) (own := RP) ⟨hx, hb, hml, hown, fun _ h => nomatch h⟩ (ct_P_read l (u := 40) (n := 8) (by first | decide | omega)) (zt_cv hT tc_P_read tv_P_read tw_385 ⟨Nat.le_of_ble_eq_true rfl, Nat.le_of_ble_eq_true rfl⟩) (zz_preV (q0 := 0) hT hP hK rfl rfl) rfl rfl hl.1 rfl (lv_room (Nat.le_of_ble_eq_true rfl)) dP_isAnswer_34 ⟨Nat.zero_le _, Nat.zero_le _⟩) ?_
      refine lv_lconst (v := 0) hx hb dP_isAnswer_37 (by decide) ?_
      refine zz_leq (tgt := 46) hx hb dP_isAnswer_38 dP_isAnswer_39 (by decide) (fun h3 => ?_) (fun h3 => ?_)
      · refine lv_iconst (v := 0) hx hb dP_isAnswer_46 (by decide) ?_
        exact zz_bret hx hb hr hlocks dP_isAnswer_47 (by decide) (by unfold zp_ans; first | (rw [if_pos (by grind)]; done) | (rw [if_neg (by grind)]; done))
      · refine lv_iconst (v := 1) hx hb dP_isAnswer_42 (by decide) ?_
        refine lv_goto (tgt := 47) hx hb dP_isAnswer_43 (by decide) ?_
        exact zz_bret hx hb hr hlocks dP_isAnswer_47 (by decide) (by unfold zp_ans; first | (rw [if_pos (by grind)]; done) | (rw [if_neg (by grind)]; done))
set_option maxHeartbeats 4000000 in
set_option maxRecDepth 100000 in
theorem ct_P_isSynchronized (l : Launch) {dC : Nat → ClassId} {dI : Nat → Nat → Nat} {cJ cI cB cZ cS : ClassId} {q r : Nat} {row : Nat → Int32} : Met l yP_isSynchronized [Cond.code yP_isSynchronized cP_isSynchronized 1 (some .boolean)] { frames := 1, cells := 0, slots := 0, locals := 20 } (va_Pc [.ref q] (zz_B (dC, dI) vcl (zz_T cJ cI cB cZ cS) (zp_W q r cB row))) (zz_Q (.int (zp_syn row))) 0 0 (fun _ => False) := by
  refine Met.ofW (cc := cP_isSynchronized) (maxL := 1) (ret := (some .boolean)) (by decide) rfl ?_
  intro p e s m args below meth c s₁ B hml hv
  obtain ⟨rfl, hT, hP, hK⟩ := hv
  have hx := B.exec
  have hb := B.bytes
  have hr := B.returns
  have hlocks := B.notSynchronized
  have hown : s.vm.findClass RP = some m.cls := findClass_of_methodNamed B.named
  have hl := lv_entry ([.ref q]) (n := 1) (Nat.le_of_ble_eq_true rfl)
  rw [lg_entry_eq]
  generalize (lg_sl ([.ref q]) ++ List.replicate (1 - (lg_sl ([.ref q])).length) Slot.unset).toArray = ls at hl ⊢
  have hl : lv_has ls 1 [(0, .ref q)] := hl
  refine lv_aload_n hx hb dP_isSynchronized_0 rfl (lv_at hl 0 rfl) ?_
  refine zz_getP hx hb hT hown hK hP 0 rfl 0 (by decide) tw_30 rfl dP_isSynchronized_1 ?_
  refine lv_iconst (v := 0) hx hb dP_isSynchronized_4 (by decide) ?_
  refine zz_bald hx hb hK hP 1 2 rfl rfl 0 rfl (by first | omega | decide | assumption) (by decide) dP_isSynchronized_5 ?_
  refine lv_sipush (v := 255) hx hb dP_isSynchronized_6 (by decide) ?_
  refine lv_iand hx hb dP_isSynchronized_9 ?_
  refine lv_bipush (v := 6) hx hb dP_isSynchronized_10 (by decide) ?_
  refine lv_ishr hx hb dP_isSynchronized_12 ?_
  refine lv_iconst (v := 3) hx hb dP_isSynchronized_13 (by decide) ?_
  refine zz_ieq (tgt := 30) hx hb dP_isSynchronized_14 (by decide) (fun h1 => ?_) (fun h1 => ?_)
  · refine lv_iconst (v := 0) hx hb dP_isSynchronized_30 (by decide) ?_
    exact zz_bret hx hb hr hlocks dP_isSynchronized_31 (by decide) (by unfold zp_syn; first | (rw [if_pos (by grind)]; done) | (rw [if_neg (by grind)]; done))
  · refine lv_aload_n hx hb dP_isSynchronized_17 rfl (lv_at hl 0 rfl) ?_
    refine zz_call (va_runV (Ts := []) (As := []) (own := RP) ⟨hx, hb, hml, hown, fun _ h => nomatch h⟩ (ct_P_stratum l) (zt_cv hT tc_P_stratum tv_P_stratum tw_412 ⟨Nat.le_of_ble_eq_true rfl, Nat.le_of_ble_eq_true rfl⟩) (zz_preV (q0 := 0) hT hP hK rfl rfl) rfl rfl hl.1 rfl (lv_room (Nat.le_of_ble_eq_true rfl)) dP_isSynchronized_18 ⟨Nat.zero_le _, Nat.zero_le _⟩) ?_
    refine lv_bipush (v := 15) hx hb dP_isSynchronized_21 (by decide) ?_
    refine zz_igt (tgt := 30) hx hb dP_isSynchronized_23 (by decide) (fun h2 => ?_) (fun h2 => ?_)
    · refine lv_iconst (v := 0) hx hb dP_isSynchronized_30 (by decide) ?_
      exact zz_bret hx hb hr hlocks dP_isSynchronized_31 (by decide) (by unfold zp_syn; first | (rw [if_pos (by grind)]; done) | (rw [if_neg (by grind)]; done))
    · refine lv_iconst (v := 1) hx hb dP_isSynchronized_26 (by decide) ?_
      refine lv_goto (tgt := 31) hx hb dP_isSynchronized_27 (by decide) ?_
      exact zz_bret hx hb hr hlocks dP_isSynchronized_31 (by decide) (by unfold zp_syn; first | (rw [if_pos (by grind)]; done) | (rw [if_neg (by grind)]; done))
set_option maxHeartbeats 4000000 in
set_option maxRecDepth 100000 in
theorem ct_P_rootDelay (l : Launch) {dC : Nat → ClassId} {dI : Nat → Nat → Nat} {cJ cI cB cZ cS : ClassId} {q r : Nat} {row : Nat → Int32} : Met l yP_rootDelay [Cond.code yP_rootDelay cP_rootDelay 1 (some .long)] { frames := 1, cells := 0, slots := 0, locals := 25 } (va_Pc [.ref q] (zz_B (dC, dI) vcl (zz_T cJ cI cB cZ cS) (zp_W q r cB row))) (zz_Q (.long ((zp_rd row 4 4) * 65536))) 0 0 (fun _ => False) := by
  refine Met.ofW (cc := cP_rootDelay) (maxL := 1) (ret := (some .long)) (by decide) rfl ?_
  intro p e s m args below meth c s₁ B hml hv
  obtain ⟨rfl, hT, hP, hK⟩ := hv
  have hx := B.exec
  have hb := B.bytes
  have hr := B.returns
  have hlocks := B.notSynchronized
  have hown : s.vm.findClass RP = some m.cls := findClass_of_methodNamed B.named
  have hl := lv_entry ([.ref q]) (n := 1) (Nat.le_of_ble_eq_true rfl)
  rw [lg_entry_eq]
  generalize (lg_sl ([.ref q]) ++ List.replicate (1 - (lg_sl ([.ref q])).length) Slot.unset).toArray = ls at hl ⊢
  have hl : lv_has ls 1 [(0, .ref q)] := hl
  refine lv_aload_n hx hb dP_rootDelay_0 rfl (lv_at hl 0 rfl) ?_
  refine lv_iconst (v := 4) hx hb dP_rootDelay_1 (by decide) ?_
  refine lv_iconst (v := 4) hx hb dP_rootDelay_2 (by decide) ?_
  refine zz_call (va_runV (Ts := []) (As := [.int 4, .int 4]) (own := RP) ⟨hx, hb, hml, hown, fun _ h => nomatch h⟩ (ct_P_read l (u := 4) (n := 4) (by first | decide | omega)) (zt_cv hT tc_P_read tv_P_read tw_385 ⟨Nat.le_of_ble_eq_true rfl, Nat.le_of_ble_eq_true rfl⟩) (zz_preV (q0 := 0) hT hP hK rfl rfl) rfl rfl hl.1 rfl (lv_room (Nat.le_of_ble_eq_true rfl)) dP_rootDelay_3 ⟨Nat.zero_le _, Nat.zero_le _⟩) ?_
  refine lv_ldc2 (own := RP) (v := 65536) hx hb hown (hT.w tw_427) dP_rootDelay_6 ?_
  refine lv_lmul hx hb dP_rootDelay_9 ?_
  exact zz_lret hx hb hr hlocks dP_rootDelay_10 (rfl)
set_option maxHeartbeats 4000000 in
set_option maxRecDepth 100000 in
theorem ct_P_rootDispersion (l : Launch) {dC : Nat → ClassId} {dI : Nat → Nat → Nat} {cJ cI cB cZ cS : ClassId} {q r : Nat} {row : Nat → Int32} : Met l yP_rootDispersion [Cond.code yP_rootDispersion cP_rootDispersion 1 (some .long)] { frames := 1, cells := 0, slots := 0, locals := 25 } (va_Pc [.ref q] (zz_B (dC, dI) vcl (zz_T cJ cI cB cZ cS) (zp_W q r cB row))) (zz_Q (.long ((zp_rd row 8 4) * 65536))) 0 0 (fun _ => False) := by
  refine Met.ofW (cc := cP_rootDispersion) (maxL := 1) (ret := (some .long)) (by decide) rfl ?_
  intro p e s m args below meth c s₁ B hml hv
  obtain ⟨rfl, hT, hP, hK⟩ := hv
  have hx := B.exec
  have hb := B.bytes
  have hr := B.returns
  have hlocks := B.notSynchronized
  have hown : s.vm.findClass RP = some m.cls := findClass_of_methodNamed B.named
  have hl := lv_entry ([.ref q]) (n := 1) (Nat.le_of_ble_eq_true rfl)
  rw [lg_entry_eq]
  generalize (lg_sl ([.ref q]) ++ List.replicate (1 - (lg_sl ([.ref q])).length) Slot.unset).toArray = ls at hl ⊢
  have hl : lv_has ls 1 [(0, .ref q)] := hl
  refine lv_aload_n hx hb dP_rootDispersion_0 rfl (lv_at hl 0 rfl) ?_
  refine lv_bipush (v := 8) hx hb dP_rootDispersion_1 (by decide) ?_
  refine lv_iconst (v := 4) hx hb dP_rootDispersion_3 (by decide) ?_
  refine zz_call (va_runV (Ts := []) (As := [.int 8, .int 4]) (own := RP) ⟨hx, hb, hml, hown, fun _ h => nomatch h⟩ (ct_P_read l (u := 8) (n := 4) (by first | decide | omega)) (zt_cv hT tc_P_read tv_P_read tw_385 ⟨Nat.le_of_ble_eq_true rfl, Nat.le_of_ble_eq_true rfl⟩) (zz_preV (q0 := 0) hT hP hK rfl rfl) rfl rfl hl.1 rfl (lv_room (Nat.le_of_ble_eq_true rfl)) dP_rootDispersion_4 ⟨Nat.zero_le _, Nat.zero_le _⟩) ?_
  refine lv_ldc2 (own := RP) (v := 65536) hx hb hown (hT.w tw_427) dP_rootDispersion_7 ?_
  refine lv_lmul hx hb dP_rootDispersion_10 ?_
  exact zz_lret hx hb hr hlocks dP_rootDispersion_11 (rfl)
end
section
/-! What the vote's readings are -/
def zv_has (x y : Int32) : Int32 := if (x >>> (y &&& 31)) &&& 1 = 0 then 0 else 1
def zv_maj (low high : Int64) : Int32 := if high < low then 0 else 1
def zv_agr (low high : Int64) (surv : Int32) : Int32 := if ¬ (zv_maj low high = 0) ∧ ¬ (surv = 0) then 1 else 0
def zv_spr (surv : Int32) (vo : Nat → Int64) (k : Nat) : Nat → Int64
  | 0 => 0
  | i + 1 => if zv_has surv (nI i) = 0 then zv_spr surv vo k i else zv_spr surv vo k i + zn_abs (vo k - vo i)
def zv_hld (cand : Int32) (vo vd : Nat → Int64) (tm : Int64) : Nat → Nat
  | 0 => 0
  | i + 1 => if ¬ (zv_has cand (nI i) = 0) ∧ ¬ (vd i < zn_abs (tm - vo i)) then zv_hld cand vo vd tm i + 1 else zv_hld cand vo vd tm i
def zv_inm (cand : Int32) (vo vd : Nat → Int64) (tm : Int64) : Int32 := if zn_bc cand < 2 * nI (zv_hld cand vo vd tm 5) then 1 else 0
def zv_sum (surv : Int32) (vo : Nat → Int64) : Nat → Int64
  | 0 => 0
  | i + 1 => if zv_has surv (nI i) = 0 then zv_sum surv vo i else zv_sum surv vo i + vo i
def zv_cmb (surv : Int32) (vo : Nat → Int64) : Int64 := zn_fd (zv_sum surv vo 5) (Int32.toInt64 (zn_maxi 1 (zn_bc surv)))
theorem zv_nz (x : Int32) : ¬ (Int32.toInt64 (zn_maxi 1 x) = 0) := by
  intro h
  have h1 : (zn_maxi 1 x).toInt64.toInt = 0 := by rw [h]; rfl
  rw [Int32.toInt_toInt64] at h1
  have h2 : (1 : Int32).toInt = 1 := rfl
  unfold zn_maxi at h1
  by_cases hlt : 1 < x
  · rw [if_pos hlt] at h1
    rw [Int32.lt_iff_toInt_lt] at hlt
    omega
  · rw [if_neg hlt] at h1
    omega
def zv_ff (surv : Int32) (vo : Nat → Int64) : Nat → Nat × Int64
  | 0 => (0, -1)
  | i + 1 => if ¬ (zv_has surv (nI i) = 0) ∧ ¬ (zv_spr surv vo i 5 < (zv_ff surv vo i).2) then (i, zv_spr surv vo i 5) else zv_ff surv vo i
abbrev zv_W (v a b : Nat) (cJ : ClassId) (cand : Int32) (low high : Int64) (surv : Int32) (vo vd : Nat → Int64) : va_W :=
  [(v, .inr (2, [.int cand, .long low, .long high, .int surv, .ref a, .ref b])), (a, .inl (cJ, 5, .inr (.inl vo))), (b, .inl (cJ, 5, .inr (.inl vd)))]
end
section
/-! Readings of the vote -/
set_option maxHeartbeats 4000000 in
set_option maxRecDepth 100000 in
theorem ct_V_has (l : Launch) {x y : Int32} : Met l yV_has [Cond.code yV_has cV_has 2 (some .boolean)] { frames := 0, cells := 0, slots := 0, locals := 0 } (va_Pc [.int x, .int y] zt_TB) (zz_Q (.int (zv_has x y))) 0 0 (fun _ => False) := by
  refine Met.ofW (cc := cV_has) (maxL := 2) (ret := (some .boolean)) (by decide) rfl ?_
  intro p e s m args below meth c s₁ B hml hv
  obtain ⟨rfl, hT⟩ := hv
  have hx := B.exec
  have hb := B.bytes
  have hr := B.returns
  have hlocks := B.notSynchronized
  have hown : s.vm.findClass RV = some m.cls := findClass_of_methodNamed B.named
  have hl := lv_entry ([.int x, .int y]) (n := 2) (Nat.le_of_ble_eq_true rfl)
  rw [lg_entry_eq]
  generalize (lg_sl ([.int x, .int y]) ++ List.replicate (2 - (lg_sl ([.int x, .int y])).length) Slot.unset).toArray = ls at hl ⊢
  have hl : lv_has ls 2 [(0, .int x), (1, .int y)] := hl
  refine lv_iload_n hx hb dV_has_0 rfl (lv_at hl 0 rfl) ?_
  refine lv_iload_n hx hb dV_has_1 rfl (lv_at hl 1 rfl) ?_
  refine lv_ishr hx hb dV_has_2 ?_
  refine lv_iconst (v := 1) hx hb dV_has_3 (by decide) ?_
  refine lv_iand hx hb dV_has_4 ?_
  refine zz_zeq (tgt := 12) hx hb dV_has_5 (by decide) (fun h1 => ?_) (fun h1 => ?_)
  · refine lv_iconst (v := 0) hx hb dV_has_12 (by decide) ?_
    exact zz_bret hx hb hr hlocks dV_has_13 (by decide) (by first | exact (if_pos h1).symm | exact (if_neg h1).symm)
  · refine lv_iconst (v := 1) hx hb dV_has_8 (by decide) ?_
    refine lv_goto (tgt := 13) hx hb dV_has_9 (by decide) ?_
    exact zz_bret hx hb hr hlocks dV_has_13 (by decide) (by first | exact (if_pos h1).symm | exact (if_neg h1).symm)
set_option maxHeartbeats 4000000 in
set_option maxRecDepth 100000 in
theorem ct_V_hasMajority (l : Launch) {dC : Nat → ClassId} {dI : Nat → Nat → Nat} {cJ cI cB cZ cS : ClassId} {v a b : Nat} {cand surv : Int32} {low high : Int64} {vo vd : Nat → Int64} : Met l yV_hasMajority [Cond.code yV_hasMajority cV_hasMajority 1 (some .boolean)] { frames := 0, cells := 0, slots := 0, locals := 0 } (va_Pc [.ref v] (zz_B (dC, dI) vcl (zz_T cJ cI cB cZ cS) (zv_W v a b cJ cand low high surv vo vd))) (zz_Q (.int (zv_maj low high))) 0 0 (fun _ => False) := by
  refine Met.ofW (cc := cV_hasMajority) (maxL := 1) (ret := (some .boolean)) (by decide) rfl ?_
  intro p e s m args below meth c s₁ B hml hv
  obtain ⟨rfl, hT, hP, hK⟩ := hv
  have hx := B.exec
  have hb := B.bytes
  have hr := B.returns
  have hlocks := B.notSynchronized
  have hown : s.vm.findClass RV = some m.cls := findClass_of_methodNamed B.named
  have hl := lv_entry ([.ref v]) (n := 1) (Nat.le_of_ble_eq_true rfl)
  rw [lg_entry_eq]
  generalize (lg_sl ([.ref v]) ++ List.replicate (1 - (lg_sl ([.ref v])).length) Slot.unset).toArray = ls at hl ⊢
  have hl : lv_has ls 1 [(0, .ref v)] := hl
  refine lv_aload_n hx hb dV_hasMajority_0 rfl (lv_at hl 0 rfl) ?_
  refine zz_getV hx hb hT hown hK hP 0 rfl 1 (by decide) tw_100 rfl dV_hasMajority_1 ?_
  refine lv_aload_n hx hb dV_hasMajority_4 rfl (lv_at hl 0 rfl) ?_
  refine zz_getV hx hb hT hown hK hP 0 rfl 2 (by decide) tw_102 rfl dV_hasMajority_5 ?_
  refine zz_lgt (tgt := 16) hx hb dV_hasMajority_8 dV_hasMajority_9 (by decide) (fun h1 => ?_) (fun h1 => ?_)
  · refine lv_iconst (v := 0) hx hb dV_hasMajority_16 (by decide) ?_
    exact zz_bret hx hb hr hlocks dV_hasMajority_17 (by decide) (by first | exact (if_pos h1).symm | exact (if_neg h1).symm)
  · refine lv_iconst (v := 1) hx hb dV_hasMajority_12 (by decide) ?_
    refine lv_goto (tgt := 17) hx hb dV_hasMajority_13 (by decide) ?_
    exact zz_bret hx hb hr hlocks dV_hasMajority_17 (by decide) (by first | exact (if_pos h1).symm | exact (if_neg h1).symm)
set_option maxHeartbeats 4000000 in
set_option maxRecDepth 100000 in
theorem ct_V_agrees (l : Launch) {dC : Nat → ClassId} {dI : Nat → Nat → Nat} {cJ cI cB cZ cS : ClassId} {v a b : Nat} {cand surv : Int32} {low high : Int64} {vo vd : Nat → Int64} : Met l yV_agrees [Cond.code yV_agrees cV_agrees 1 (some .boolean)] { frames := 1, cells := 0, slots := 0, locals := 20 } (va_Pc [.ref v] (zz_B (dC, dI) vcl (zz_T cJ cI cB cZ cS) (zv_W v a b cJ cand low high surv vo vd))) (zz_Q (.int (zv_agr low high surv))) 0 0 (fun _ => False) := by
  refine Met.ofW (cc := cV_agrees) (maxL := 1) (ret := (some .boolean)) (by decide) rfl ?_
  intro p e s m args below meth c s₁ B hml hv
  obtain ⟨rfl, hT, hP, hK⟩ := hv
  have hx := B.exec
  have hb := B.bytes
  have hr := B.returns
  have hlocks := B.notSynchronized
  have hown : s.vm.findClass RV = some m.cls := findClass_of_methodNamed B.named
  have hl := lv_entry ([.ref v]) (n := 1) (Nat.le_of_ble_eq_true rfl)
  rw [lg_entry_eq]
  generalize (lg_sl ([.ref v]) ++ List.replicate (1 - (lg_sl ([.ref v])).length) Slot.unset).toArray = ls at hl ⊢
  have hl : lv_has ls 1 [(0, .ref v)] := hl
  refine lv_aload_n hx hb dV_agrees_0 rfl (lv_at hl 0 rfl) ?_
  refine zz_call (va_runV (Ts := []) (As := []) (own := RV) ⟨hx, hb, hml, hown, fun _ h => nomatch h⟩ (ct_V_hasMajority l) (zt_cv hT tc_V_hasMajority tv_V_hasMajority tw_548 ⟨Nat.le_of_ble_eq_true rfl, Nat.le_of_ble_eq_true rfl⟩) (zz_preV (q0 := 0) hT hP hK rfl rfl) rfl rfl hl.1 rfl (lv_room (Nat.le_of_ble_eq_true rfl)) dV_agrees_1 ⟨Nat.zero_le _, Nat.zero_le _⟩) ?_
  refine zz_zeq (tgt := 18) hx hb dV_agrees_4 (by decide) (fun h1 => ?_) (fun h1 => ?_)
  · refine lv_iconst (v := 0) hx hb dV_agrees_18 (by decide) ?_
    exact zz_bret hx hb hr hlocks dV_agrees_19 (by decide) (by unfold zv_agr; first | (rw [if_pos (by grind)]; done) | (rw [if_neg (by grind)]; done))
  · refine lv_aload_n hx hb dV_agrees_7 rfl (lv_at hl 0 rfl) ?_
    refine zz_getV hx hb hT hown hK hP 0 rfl 3 (by decide) tw_104 rfl dV_agrees_8 ?_
    refine zz_zeq (tgt := 18) hx hb dV_agrees_11 (by decide) (fun h2 => ?_) (fun h2 => ?_)
    · refine lv_iconst (v := 0) hx hb dV_agrees_18 (by decide) ?_
      exact zz_bret hx hb hr hlocks dV_agrees_19 (by decide) (by unfold zv_agr; first | (rw [if_pos (by grind)]; done) | (rw [if_neg (by grind)]; done))
    · refine lv_iconst (v := 1) hx hb dV_agrees_14 (by decide) ?_
      refine lv_goto (tgt := 19) hx hb dV_agrees_15 (by decide) ?_
      exact zz_bret hx hb hr hlocks dV_agrees_19 (by decide) (by unfold zv_agr; first | (rw [if_pos (by grind)]; done) | (rw [if_neg (by grind)]; done))
set_option maxHeartbeats 4000000 in
set_option maxRecDepth 100000 in
theorem ct_V_spreadOf (l : Launch) {dC : Nat → ClassId} {dI : Nat → Nat → Nat} {cJ cI cB cZ cS : ClassId} {v a b : Nat} {cand surv : Int32} {low high : Int64} {vo vd : Nat → Int64} {k : Nat} (hk : k < 5) : Met l yV_spreadOf [Cond.code yV_spreadOf cV_spreadOf 5 (some .long)] { frames := 1, cells := 0, slots := 0, locals := 21 } (va_Pc [.ref v, .int (nI k)] (zz_B (dC, dI) vcl (zz_T cJ cI cB cZ cS) (zv_W v a b cJ cand low high surv vo vd))) (zz_Q (.long (zv_spr surv vo k 5))) 0 0 (fun _ => False) := by
  refine Met.ofW (cc := cV_spreadOf) (maxL := 5) (ret := (some .long)) (by decide) rfl ?_
  intro p e s m args below meth c s₁ B hml hv
  obtain ⟨rfl, hT, hP, hK⟩ := hv
  have hx := B.exec
  have hb := B.bytes
  have hr := B.returns
  have hlocks := B.notSynchronized
  have hown : s.vm.findClass RV = some m.cls := findClass_of_methodNamed B.named
  have hl := lv_entry ([.ref v, .int (nI k)]) (n := 5) (Nat.le_of_ble_eq_true rfl)
  rw [lg_entry_eq]
  generalize (lg_sl ([.ref v, .int (nI k)]) ++ List.replicate (5 - (lg_sl ([.ref v, .int (nI k)])).length) Slot.unset).toArray = ls at hl ⊢
  have hl : lv_has ls 5 [(0, .ref v), (1, .int (nI k))] := hl
  refine lv_lconst (v := 0) hx hb dV_spreadOf_0 (by decide) ?_
  refine lv_lstore_n (lv' := [(2, .long 0), (0, .ref v), (1, .int (nI k))]) hx hb dV_spreadOf_1 rfl hl (by decide) rfl (fun ls hl => ?_)
  refine lv_iconst (v := 0) hx hb dV_spreadOf_2 (by decide) ?_
  refine lv_istore (lv' := [(4, .int 0), (2, .long 0), (0, .ref v), (1, .int (nI k))]) hx hb dV_spreadOf_3 hl (by decide) rfl (fun ls hl => ?_)
  have lp : ∀ (k9 : Nat) (i : Nat), 5 - i < k9 → i ≤ 5 → ∀ ls : Array Slot, lv_has ls 5 [(0, .ref v), (1, .int (nI k)), (2, .long (zv_spr surv vo k i)), (4, .int (nI i))] → W p l e ({ frames := 1, cells := 0, slots := 0, locals := 21 } : Room) s m ([.ref v, .int (nI k)] : List Value).toArray below meth c s.heap [] 0 0 (MQ below (zz_Q (.long (zv_spr surv vo k 5))) ([.ref v, .int (nI k)] : List Value).toArray s 0 0 (fun _ => False)) (F0 m 5 ls []) := by
    intro k9
    induction k9 with
    | zero => intro i hk9; exact absurd hk9 (Nat.not_lt_zero _)
    | succ k9 ih_lp =>
      intro i hk9 hi ls hl
      refine lv_iload hx hb dV_spreadOf_5 (lv_at hl 3 rfl) ?_
      refine lv_iconst (v := 5) hx hb dV_spreadOf_7 (by decide) ?_
      refine zz_ige (tgt := 49) hx hb dV_spreadOf_8 (by decide) (fun h1 => ?_) (fun h1 => ?_)
      · have h1n := mt (zz_ltN (a := i) (b := 5) rfl rfl (by omega) (by omega)).mpr h1
        refine lv_lload_n hx hb dV_spreadOf_49 rfl (lv_at hl 2 rfl) ?_
        exact zz_lret hx hb hr hlocks dV_spreadOf_50 (by rw [show i = 5 from by omega])
      · have h1n := (zz_ltN (a := i) (b := 5) rfl rfl (by omega) (by omega)).mp h1
        refine lv_aload_n hx hb dV_spreadOf_11 rfl (lv_at hl 0 rfl) ?_
        refine zz_getV hx hb hT hown hK hP 0 rfl 3 (by decide) tw_104 rfl dV_spreadOf_12 ?_
        refine lv_iload hx hb dV_spreadOf_15 (lv_at hl 3 rfl) ?_
        refine zz_call (va_runS (Ts := []) (As := [.int surv, .int (nI i)]) (own := RV) ⟨hx, hb, hml, hown, fun _ h => nomatch h⟩ (ct_V_has l) (zt_cs hT tc_V_has ts_V_has tw_196 ⟨Nat.le_of_ble_eq_true rfl, Nat.le_of_ble_eq_true rfl⟩) (zz_pre0 hT) rfl rfl hl.1 rfl (lv_room (Nat.le_of_ble_eq_true rfl)) dV_spreadOf_17 ⟨Nat.zero_le _, Nat.zero_le _⟩) ?_
        refine zz_zeq (tgt := 43) hx hb dV_spreadOf_20 (by decide) (fun h2 => ?_) (fun h2 => ?_)
        · refine lv_iinc (k := 3) (v := nI (i + 1)) (lv' := [(4, .int (nI (i + 1))), (0, .ref v), (1, .int (nI k)), (2, .long (zv_spr surv vo k i))]) hx hb dV_spreadOf_43 hl rfl (nI_succ _).symm (by decide) rfl (fun ls hl => ?_)
          refine lv_goto (tgt := 5) hx hb dV_spreadOf_46 (by decide) ?_
          exact ih_lp (i + 1) (by omega) (by omega) _ (by rw [show zv_spr surv vo k (i + 1) = zv_spr surv vo k i from if_pos h2]; exact lv_sub hl [1, 2, 3, 0] rfl)
        · refine lv_lload_n hx hb dV_spreadOf_23 rfl (lv_at hl 2 rfl) ?_
          refine lv_aload_n hx hb dV_spreadOf_24 rfl (lv_at hl 0 rfl) ?_
          refine zz_getV hx hb hT hown hK hP 0 rfl 4 (by decide) tw_106 rfl dV_spreadOf_25 ?_
          refine lv_iload_n hx hb dV_spreadOf_28 rfl (lv_at hl 1 rfl) ?_
          refine zz_lald hx hb hK hP 1 0 rfl rfl k rfl (by first | omega | decide | assumption) (by decide) dV_spreadOf_29 ?_
          refine lv_aload_n hx hb dV_spreadOf_30 rfl (lv_at hl 0 rfl) ?_
          refine zz_getV hx hb hT hown hK hP 0 rfl 4 (by decide) tw_106 rfl dV_spreadOf_31 ?_
          refine lv_iload hx hb dV_spreadOf_34 (lv_at hl 3 rfl) ?_
          refine zz_lald hx hb hK hP 1 0 rfl rfl i rfl (by first | omega | decide | assumption) (by decide) dV_spreadOf_36 ?_
          refine lv_lsub hx hb dV_spreadOf_37 ?_
          refine zz_call (va_runS (Ts := []) (As := [.long ((vo k) - (vo i))]) (own := RV) ⟨hx, hb, hml, hown, fun _ h => nomatch h⟩ (ct_J_abs l) (zt_cs hT tc_J_abs ts_J_abs tw_203 ⟨Nat.le_of_ble_eq_true rfl, Nat.le_of_ble_eq_true rfl⟩) (zz_pre0 hT) rfl rfl hl.1 rfl (lv_room (Nat.le_of_ble_eq_true rfl)) dV_spreadOf_38 ⟨Nat.zero_le _, Nat.zero_le _⟩) ?_
          refine lv_ladd hx hb dV_spreadOf_41 ?_
          refine lv_lstore_n (lv' := [(2, .long ((zv_spr surv vo k i) + (zn_abs ((vo k) - (vo i))))), (0, .ref v), (1, .int (nI k)), (4, .int (nI i))]) hx hb dV_spreadOf_42 rfl hl (by decide) rfl (fun ls hl => ?_)
          refine lv_iinc (k := 3) (v := nI (i + 1)) (lv' := [(4, .int (nI (i + 1))), (2, .long ((zv_spr surv vo k i) + (zn_abs ((vo k) - (vo i))))), (0, .ref v), (1, .int (nI k))]) hx hb dV_spreadOf_43 hl rfl (nI_succ _).symm (by decide) rfl (fun ls hl => ?_)
          refine lv_goto (tgt := 5) hx hb dV_spreadOf_46 (by decide) ?_
          exact ih_lp (i + 1) (by omega) (by omega) _ (by rw [show zv_spr surv vo k (i + 1) = (zv_spr surv vo k i) + (zn_abs ((vo k) - (vo i))) from if_neg h2]; exact lv_sub hl [2, 3, 1, 0] rfl)
  exact lp (5 - 0 + 1) 0 (by omega) (Nat.zero_le _) _ (by rw [show zv_spr surv vo k 0 = 0 from rfl]; rw [show nI 0 = 0 from rfl]; exact lv_sub hl [2, 3, 1, 0] rfl)
set_option maxHeartbeats 4000000 in
set_option maxRecDepth 100000 in
theorem ct_V_isInMost (l : Launch) {dC : Nat → ClassId} {dI : Nat → Nat → Nat} {cJ cI cB cZ cS : ClassId} {v a b : Nat} {cand surv : Int32} {low high : Int64} {vo vd : Nat → Int64} {tm : Int64} : Met l yV_isInMost [Cond.code yV_isInMost cV_isInMost 5 (some .boolean)] { frames := 1, cells := 0, slots := 0, locals := 21 } (va_Pc [.ref v, .long tm] (zz_B (dC, dI) vcl (zz_T cJ cI cB cZ cS) (zv_W v a b cJ cand low high surv vo vd))) (zz_Q (.int (zv_inm cand vo vd tm))) 0 0 (fun _ => False) := by
  refine Met.ofW (cc := cV_isInMost) (maxL := 5) (ret := (some .boolean)) (by decide) rfl ?_
  intro p e s m args below meth c s₁ B hml hv
  obtain ⟨rfl, hT, hP, hK⟩ := hv
  have hx := B.exec
  have hb := B.bytes
  have hr := B.returns
  have hlocks := B.notSynchronized
  have hown : s.vm.findClass RV = some m.cls := findClass_of_methodNamed B.named
  have hl := lv_entry ([.ref v, .long tm]) (n := 5) (Nat.le_of_ble_eq_true rfl)
  rw [lg_entry_eq]
  generalize (lg_sl ([.ref v, .long tm]) ++ List.replicate (5 - (lg_sl ([.ref v, .long tm])).length) Slot.unset).toArray = ls at hl ⊢
  have hl : lv_has ls 5 [(0, .ref v), (1, .long tm)] := hl
  refine lv_iconst (v := 0) hx hb dV_isInMost_0 (by decide) ?_
  refine lv_istore_n (lv' := [(3, .int 0), (0, .ref v), (1, .long tm)]) hx hb dV_isInMost_1 rfl hl (by decide) rfl (fun ls hl => ?_)
  refine lv_iconst (v := 0) hx hb dV_isInMost_2 (by decide) ?_
  refine lv_istore (lv' := [(4, .int 0), (3, .int 0), (0, .ref v), (1, .long tm)]) hx hb dV_isInMost_3 hl (by decide) rfl (fun ls hl => ?_)
  have lp : ∀ (k9 : Nat) (i : Nat), 5 - i < k9 → i ≤ 5 → ∀ ls : Array Slot, lv_has ls 5 [(0, .ref v), (1, .long tm), (3, .int (nI (zv_hld cand vo vd tm i))), (4, .int (nI i))] → W p l e ({ frames := 1, cells := 0, slots := 0, locals := 21 } : Room) s m ([.ref v, .long tm] : List Value).toArray below meth c s.heap [] 0 0 (MQ below (zz_Q (.int (zv_inm cand vo vd tm))) ([.ref v, .long tm] : List Value).toArray s 0 0 (fun _ => False)) (F0 m 5 ls []) := by
    intro k9
    induction k9 with
    | zero => intro i hk9; exact absurd hk9 (Nat.not_lt_zero _)
    | succ k9 ih_lp =>
      intro i hk9 hi ls hl
      refine lv_iload hx hb dV_isInMost_5 (lv_at hl 3 rfl) ?_
      refine lv_iconst (v := 5) hx hb dV_isInMost_7 (by decide) ?_
      refine zz_ige (tgt := 55) hx hb dV_isInMost_8 (by decide) (fun h1 => ?_) (fun h1 => ?_)
      · have h1n := mt (zz_ltN (a := i) (b := 5) rfl rfl (by omega) (by omega)).mpr h1
        refine lv_iconst (v := 2) hx hb dV_isInMost_55 (by decide) ?_
        refine lv_iload_n hx hb dV_isInMost_56 rfl (lv_at hl 2 rfl) ?_
        refine lv_imul hx hb dV_isInMost_57 ?_
        refine lv_aload_n hx hb dV_isInMost_58 rfl (lv_at hl 0 rfl) ?_
        refine zz_getV hx hb hT hown hK hP 0 rfl 0 (by decide) tw_98 rfl dV_isInMost_59 ?_
        refine zz_call (va_runS (Ts := []) (As := [.int cand]) (own := RV) ⟨hx, hb, hml, hown, fun _ h => nomatch h⟩ (ct_I_bitCount l) (zt_cs hT tc_I_bitCount ts_I_bitCount tw_204 ⟨Nat.le_of_ble_eq_true rfl, Nat.le_of_ble_eq_true rfl⟩) (zz_pre0 hT) rfl rfl hl.1 rfl (lv_room (Nat.le_of_ble_eq_true rfl)) dV_isInMost_62 ⟨Nat.zero_le _, Nat.zero_le _⟩) ?_
        refine zz_ile (tgt := 72) hx hb dV_isInMost_65 (by decide) (fun h2 => ?_) (fun h2 => ?_)
        · refine lv_iconst (v := 0) hx hb dV_isInMost_72 (by decide) ?_
          exact zz_bret hx hb hr hlocks dV_isInMost_73 (by decide) (by have e9 : i = 5 := (by omega); subst e9; exact (if_neg h2).symm)
        · refine lv_iconst (v := 1) hx hb dV_isInMost_68 (by decide) ?_
          refine lv_goto (tgt := 73) hx hb dV_isInMost_69 (by decide) ?_
          exact zz_bret hx hb hr hlocks dV_isInMost_73 (by decide) (by have e9 : i = 5 := (by omega); subst e9; exact (if_pos h2).symm)
      · have h1n := (zz_ltN (a := i) (b := 5) rfl rfl (by omega) (by omega)).mp h1
        refine lv_aload_n hx hb dV_isInMost_11 rfl (lv_at hl 0 rfl) ?_
        refine zz_getV hx hb hT hown hK hP 0 rfl 0 (by decide) tw_98 rfl dV_isInMost_12 ?_
        refine lv_iload hx hb dV_isInMost_15 (lv_at hl 3 rfl) ?_
        refine zz_call (va_runS (Ts := []) (As := [.int cand, .int (nI i)]) (own := RV) ⟨hx, hb, hml, hown, fun _ h => nomatch h⟩ (ct_V_has l) (zt_cs hT tc_V_has ts_V_has tw_196 ⟨Nat.le_of_ble_eq_true rfl, Nat.le_of_ble_eq_true rfl⟩) (zz_pre0 hT) rfl rfl hl.1 rfl (lv_room (Nat.le_of_ble_eq_true rfl)) dV_isInMost_17 ⟨Nat.zero_le _, Nat.zero_le _⟩) ?_
        refine zz_zeq (tgt := 49) hx hb dV_isInMost_20 (by decide) (fun h3 => ?_) (fun h3 => ?_)
        · refine lv_iinc (k := 3) (v := nI (i + 1)) (lv' := [(4, .int (nI (i + 1))), (0, .ref v), (1, .long tm), (3, .int (nI (zv_hld cand vo vd tm i)))]) hx hb dV_isInMost_49 hl rfl (nI_succ _).symm (by decide) rfl (fun ls hl => ?_)
          refine lv_goto (tgt := 5) hx hb dV_isInMost_52 (by decide) ?_
          exact ih_lp (i + 1) (by omega) (by omega) _ (by rw [show nI (zv_hld cand vo vd tm (i + 1)) = nI (zv_hld cand vo vd tm i) from congrArg nI (if_neg (fun q => q.1 h3))]; exact lv_sub hl [1, 2, 3, 0] rfl)
        · refine lv_lload_n hx hb dV_isInMost_23 rfl (lv_at hl 1 rfl) ?_
          refine lv_aload_n hx hb dV_isInMost_24 rfl (lv_at hl 0 rfl) ?_
          refine zz_getV hx hb hT hown hK hP 0 rfl 4 (by decide) tw_106 rfl dV_isInMost_25 ?_
          refine lv_iload hx hb dV_isInMost_28 (lv_at hl 3 rfl) ?_
          refine zz_lald hx hb hK hP 1 0 rfl rfl i rfl (by first | omega | decide | assumption) (by decide) dV_isInMost_30 ?_
          refine lv_lsub hx hb dV_isInMost_31 ?_
          refine zz_call (va_runS (Ts := []) (As := [.long (tm - (vo i))]) (own := RV) ⟨hx, hb, hml, hown, fun _ h => nomatch h⟩ (ct_J_abs l) (zt_cs hT tc_J_abs ts_J_abs tw_203 ⟨Nat.le_of_ble_eq_true rfl, Nat.le_of_ble_eq_true rfl⟩) (zz_pre0 hT) rfl rfl hl.1 rfl (lv_room (Nat.le_of_ble_eq_true rfl)) dV_isInMost_32 ⟨Nat.zero_le _, Nat.zero_le _⟩) ?_
          refine lv_aload_n hx hb dV_isInMost_35 rfl (lv_at hl 0 rfl) ?_
          refine zz_getV hx hb hT hown hK hP 0 rfl 5 (by decide) tw_107 rfl dV_isInMost_36 ?_
          refine lv_iload hx hb dV_isInMost_39 (lv_at hl 3 rfl) ?_
          refine zz_lald hx hb hK hP 2 0 rfl rfl i rfl (by first | omega | decide | assumption) (by decide) dV_isInMost_41 ?_
          refine zz_lgt (tgt := 49) hx hb dV_isInMost_42 dV_isInMost_43 (by decide) (fun h4 => ?_) (fun h4 => ?_)
          · refine lv_iinc (k := 3) (v := nI (i + 1)) (lv' := [(4, .int (nI (i + 1))), (0, .ref v), (1, .long tm), (3, .int (nI (zv_hld cand vo vd tm i)))]) hx hb dV_isInMost_49 hl rfl (nI_succ _).symm (by decide) rfl (fun ls hl => ?_)
            refine lv_goto (tgt := 5) hx hb dV_isInMost_52 (by decide) ?_
            exact ih_lp (i + 1) (by omega) (by omega) _ (by rw [show nI (zv_hld cand vo vd tm (i + 1)) = nI (zv_hld cand vo vd tm i) from congrArg nI (if_neg (fun q => q.2 h4))]; exact lv_sub hl [1, 2, 3, 0] rfl)
          · refine lv_iinc (k := 2) (v := nI ((zv_hld cand vo vd tm i) + 1)) (lv' := [(3, .int (nI ((zv_hld cand vo vd tm i) + 1))), (0, .ref v), (1, .long tm), (4, .int (nI i))]) hx hb dV_isInMost_46 hl rfl (nI_succ _).symm (by decide) rfl (fun ls hl => ?_)
            refine lv_iinc (k := 3) (v := nI (i + 1)) (lv' := [(4, .int (nI (i + 1))), (3, .int (nI ((zv_hld cand vo vd tm i) + 1))), (0, .ref v), (1, .long tm)]) hx hb dV_isInMost_49 hl rfl (nI_succ _).symm (by decide) rfl (fun ls hl => ?_)
            refine lv_goto (tgt := 5) hx hb dV_isInMost_52 (by decide) ?_
            exact ih_lp (i + 1) (by omega) (by omega) _ (by rw [show nI (zv_hld cand vo vd tm (i + 1)) = nI ((zv_hld cand vo vd tm i) + 1) from congrArg nI (if_pos ⟨h3, h4⟩)]; exact lv_sub hl [2, 3, 1, 0] rfl)
  exact lp (5 - 0 + 1) 0 (by omega) (Nat.zero_le _) _ (by rw [show nI (zv_hld cand vo vd tm 0) = 0 from rfl]; rw [show nI 0 = 0 from rfl]; exact lv_sub hl [2, 3, 1, 0] rfl)
set_option maxHeartbeats 4000000 in
set_option maxRecDepth 100000 in
theorem ct_V_combinedOffset (l : Launch) {dC : Nat → ClassId} {dI : Nat → Nat → Nat} {cJ cI cB cZ cS : ClassId} {v a b : Nat} {cand surv : Int32} {low high : Int64} {vo vd : Nat → Int64} : Met l yV_combinedOffset [Cond.code yV_combinedOffset cV_combinedOffset 4 (some .long)] { frames := 1, cells := 0, slots := 0, locals := 25 } (va_Pc [.ref v] (zz_B (dC, dI) vcl (zz_T cJ cI cB cZ cS) (zv_W v a b cJ cand low high surv vo vd))) (zz_Q (.long (zv_cmb surv vo))) 0 0 (fun _ => False) := by
  refine Met.ofW (cc := cV_combinedOffset) (maxL := 4) (ret := (some .long)) (by decide) rfl ?_
  intro p e s m args below meth c s₁ B hml hv
  obtain ⟨rfl, hT, hP, hK⟩ := hv
  have hx := B.exec
  have hb := B.bytes
  have hr := B.returns
  have hlocks := B.notSynchronized
  have hown : s.vm.findClass RV = some m.cls := findClass_of_methodNamed B.named
  have hl := lv_entry ([.ref v]) (n := 4) (Nat.le_of_ble_eq_true rfl)
  rw [lg_entry_eq]
  generalize (lg_sl ([.ref v]) ++ List.replicate (4 - (lg_sl ([.ref v])).length) Slot.unset).toArray = ls at hl ⊢
  have hl : lv_has ls 4 [(0, .ref v)] := hl
  refine lv_lconst (v := 0) hx hb dV_combinedOffset_0 (by decide) ?_
  refine lv_lstore_n (lv' := [(1, .long 0), (0, .ref v)]) hx hb dV_combinedOffset_1 rfl hl (by decide) rfl (fun ls hl => ?_)
  refine lv_iconst (v := 0) hx hb dV_combinedOffset_2 (by decide) ?_
  refine lv_istore_n (lv' := [(3, .int 0), (1, .long 0), (0, .ref v)]) hx hb dV_combinedOffset_3 rfl hl (by decide) rfl (fun ls hl => ?_)
  have lp : ∀ (k9 : Nat) (i : Nat), 5 - i < k9 → i ≤ 5 → ∀ ls : Array Slot, lv_has ls 4 [(0, .ref v), (1, .long (zv_sum surv vo i)), (3, .int (nI i))] → W p l e ({ frames := 1, cells := 0, slots := 0, locals := 25 } : Room) s m ([.ref v] : List Value).toArray below meth c s.heap [] 0 0 (MQ below (zz_Q (.long (zv_cmb surv vo))) ([.ref v] : List Value).toArray s 0 0 (fun _ => False)) (F0 m 4 ls []) := by
    intro k9
    induction k9 with
    | zero => intro i hk9; exact absurd hk9 (Nat.not_lt_zero _)
    | succ k9 ih_lp =>
      intro i hk9 hi ls hl
      refine lv_iload_n hx hb dV_combinedOffset_4 rfl (lv_at hl 2 rfl) ?_
      refine lv_iconst (v := 5) hx hb dV_combinedOffset_5 (by decide) ?_
      refine zz_ige (tgt := 35) hx hb dV_combinedOffset_6 (by decide) (fun h1 => ?_) (fun h1 => ?_)
      · have h1n := mt (zz_ltN (a := i) (b := 5) rfl rfl (by omega) (by omega)).mpr h1
        refine lv_lload_n hx hb dV_combinedOffset_35 rfl (lv_at hl 1 rfl) ?_
        refine lv_iconst (v := 1) hx hb dV_combinedOffset_36 (by decide) ?_
        refine lv_aload_n hx hb dV_combinedOffset_37 rfl (lv_at hl 0 rfl) ?_
        refine zz_getV hx hb hT hown hK hP 0 rfl 3 (by decide) tw_104 rfl dV_combinedOffset_38 ?_
        refine zz_call (va_runS (Ts := []) (As := [.int surv]) (own := RV) ⟨hx, hb, hml, hown, fun _ h => nomatch h⟩ (ct_I_bitCount l) (zt_cs hT tc_I_bitCount ts_I_bitCount tw_204 ⟨Nat.le_of_ble_eq_true rfl, Nat.le_of_ble_eq_true rfl⟩) (zz_pre0 hT) rfl rfl hl.1 rfl (lv_room (Nat.le_of_ble_eq_true rfl)) dV_combinedOffset_41 ⟨Nat.zero_le _, Nat.zero_le _⟩) ?_
        refine zz_call (va_runS (Ts := []) (As := [.int 1, .int (zn_bc surv)]) (own := RV) ⟨hx, hb, hml, hown, fun _ h => nomatch h⟩ (ct_J_max_7cf5 l) (zt_cs hT tc_J_max_7cf5 ts_J_max_7cf5 tw_557 ⟨Nat.le_of_ble_eq_true rfl, Nat.le_of_ble_eq_true rfl⟩) (zz_pre0 hT) rfl rfl hl.1 rfl (lv_room (Nat.le_of_ble_eq_true rfl)) dV_combinedOffset_44 ⟨Nat.zero_le _, Nat.zero_le _⟩) ?_
        refine lv_i2l (v := Int32.toInt64 (zn_maxi 1 (zn_bc surv))) hx hb dV_combinedOffset_47 rfl ?_
        refine zz_call (va_runS (Ts := []) (As := [.long (zv_sum surv vo i), .long (Int32.toInt64 (zn_maxi 1 (zn_bc surv)))]) (own := RV) ⟨hx, hb, hml, hown, fun _ h => nomatch h⟩ (ct_J_floorDiv l (zv_nz _)) (zt_cs hT tc_J_floorDiv ts_J_floorDiv tw_572 ⟨Nat.le_of_ble_eq_true rfl, Nat.le_of_ble_eq_true rfl⟩) (zz_pre0 hT) rfl rfl hl.1 rfl (lv_room (Nat.le_of_ble_eq_true rfl)) dV_combinedOffset_48 ⟨Nat.zero_le _, Nat.zero_le _⟩) ?_
        exact zz_lret hx hb hr hlocks dV_combinedOffset_51 (by rw [show i = 5 from by omega]; rfl)
      · have h1n := (zz_ltN (a := i) (b := 5) rfl rfl (by omega) (by omega)).mp h1
        refine lv_aload_n hx hb dV_combinedOffset_9 rfl (lv_at hl 0 rfl) ?_
        refine zz_getV hx hb hT hown hK hP 0 rfl 3 (by decide) tw_104 rfl dV_combinedOffset_10 ?_
        refine lv_iload_n hx hb dV_combinedOffset_13 rfl (lv_at hl 2 rfl) ?_
        refine zz_call (va_runS (Ts := []) (As := [.int surv, .int (nI i)]) (own := RV) ⟨hx, hb, hml, hown, fun _ h => nomatch h⟩ (ct_V_has l) (zt_cs hT tc_V_has ts_V_has tw_196 ⟨Nat.le_of_ble_eq_true rfl, Nat.le_of_ble_eq_true rfl⟩) (zz_pre0 hT) rfl rfl hl.1 rfl (lv_room (Nat.le_of_ble_eq_true rfl)) dV_combinedOffset_14 ⟨Nat.zero_le _, Nat.zero_le _⟩) ?_
        refine zz_zeq (tgt := 29) hx hb dV_combinedOffset_17 (by decide) (fun h2 => ?_) (fun h2 => ?_)
        · refine lv_iinc (k := 2) (v := nI (i + 1)) (lv' := [(3, .int (nI (i + 1))), (0, .ref v), (1, .long (zv_sum surv vo i))]) hx hb dV_combinedOffset_29 hl rfl (nI_succ _).symm (by decide) rfl (fun ls hl => ?_)
          refine lv_goto (tgt := 4) hx hb dV_combinedOffset_32 (by decide) ?_
          exact ih_lp (i + 1) (by omega) (by omega) _ (by rw [show zv_sum surv vo (i + 1) = zv_sum surv vo i from if_pos h2]; exact lv_sub hl [1, 2, 0] rfl)
        · refine lv_lload_n hx hb dV_combinedOffset_20 rfl (lv_at hl 1 rfl) ?_
          refine lv_aload_n hx hb dV_combinedOffset_21 rfl (lv_at hl 0 rfl) ?_
          refine zz_getV hx hb hT hown hK hP 0 rfl 4 (by decide) tw_106 rfl dV_combinedOffset_22 ?_
          refine lv_iload_n hx hb dV_combinedOffset_25 rfl (lv_at hl 2 rfl) ?_
          refine zz_lald hx hb hK hP 1 0 rfl rfl i rfl (by first | omega | decide | assumption) (by decide) dV_combinedOffset_26 ?_
          refine lv_ladd hx hb dV_combinedOffset_27 ?_
          refine lv_lstore_n (lv' := [(1, .long ((zv_sum surv vo i) + (vo i))), (0, .ref v), (3, .int (nI i))]) hx hb dV_combinedOffset_28 rfl hl (by decide) rfl (fun ls hl => ?_)
          refine lv_iinc (k := 2) (v := nI (i + 1)) (lv' := [(3, .int (nI (i + 1))), (1, .long ((zv_sum surv vo i) + (vo i))), (0, .ref v)]) hx hb dV_combinedOffset_29 hl rfl (nI_succ _).symm (by decide) rfl (fun ls hl => ?_)
          refine lv_goto (tgt := 4) hx hb dV_combinedOffset_32 (by decide) ?_
          exact ih_lp (i + 1) (by omega) (by omega) _ (by rw [show zv_sum surv vo (i + 1) = (zv_sum surv vo i) + (vo i) from if_neg h2]; exact lv_sub hl [2, 1, 0] rfl)
  exact lp (5 - 0 + 1) 0 (by omega) (Nat.zero_le _) _ (by rw [show zv_sum surv vo 0 = 0 from rfl]; rw [show nI 0 = 0 from rfl]; exact lv_sub hl [2, 1, 0] rfl)
set_option maxHeartbeats 4000000 in
set_option maxRecDepth 100000 in
theorem ct_V_findFarthest (l : Launch) {dC : Nat → ClassId} {dI : Nat → Nat → Nat} {cJ cI cB cZ cS : ClassId} {v a b : Nat} {cand surv : Int32} {low high : Int64} {vo vd : Nat → Int64} : Met l yV_findFarthest [Cond.code yV_findFarthest cV_findFarthest 5 (some .int)] { frames := 2, cells := 0, slots := 0, locals := 45 } (va_Pc [.ref v] (zz_B (dC, dI) vcl (zz_T cJ cI cB cZ cS) (zv_W v a b cJ cand low high surv vo vd))) (zz_Q (.int (nI (zv_ff surv vo 5).1))) 0 0 (fun _ => False) := by
  refine Met.ofW (cc := cV_findFarthest) (maxL := 5) (ret := (some .int)) (by decide) rfl ?_
  intro p e s m args below meth c s₁ B hml hv
  obtain ⟨rfl, hT, hP, hK⟩ := hv
  have hx := B.exec
  have hb := B.bytes
  have hr := B.returns
  have hlocks := B.notSynchronized
  have hown : s.vm.findClass RV = some m.cls := findClass_of_methodNamed B.named
  have hl := lv_entry ([.ref v]) (n := 5) (Nat.le_of_ble_eq_true rfl)
  rw [lg_entry_eq]
  generalize (lg_sl ([.ref v]) ++ List.replicate (5 - (lg_sl ([.ref v])).length) Slot.unset).toArray = ls at hl ⊢
  have hl : lv_has ls 5 [(0, .ref v)] := hl
  refine lv_iconst (v := 0) hx hb dV_findFarthest_0 (by decide) ?_
  refine lv_istore_n (lv' := [(1, .int 0), (0, .ref v)]) hx hb dV_findFarthest_1 rfl hl (by decide) rfl (fun ls hl => ?_)
  refine lv_ldc2 (own := RV) (v := (-1)) hx hb hown (hT.w tw_222) dV_findFarthest_2 ?_
  refine lv_lstore_n (lv' := [(2, .long (-1)), (1, .int 0), (0, .ref v)]) hx hb dV_findFarthest_5 rfl hl (by decide) rfl (fun ls hl => ?_)
  refine lv_iconst (v := 0) hx hb dV_findFarthest_6 (by decide) ?_
  refine lv_istore (lv' := [(4, .int 0), (2, .long (-1)), (1, .int 0), (0, .ref v)]) hx hb dV_findFarthest_7 hl (by decide) rfl (fun ls hl => ?_)
  have lp : ∀ (k9 : Nat) (i : Nat), 5 - i < k9 → i ≤ 5 → ∀ ls : Array Slot, lv_has ls 5 [(0, .ref v), (1, .int (nI (zv_ff surv vo i).1)), (2, .long ((zv_ff surv vo i).2)), (4, .int (nI i))] → W p l e ({ frames := 2, cells := 0, slots := 0, locals := 45 } : Room) s m ([.ref v] : List Value).toArray below meth c s.heap [] 0 0 (MQ below (zz_Q (.int (nI (zv_ff surv vo 5).1))) ([.ref v] : List Value).toArray s 0 0 (fun _ => False)) (F0 m 9 ls []) := by
    intro k9
    induction k9 with
    | zero => intro i hk9; exact absurd hk9 (Nat.not_lt_zero _)
    | succ k9 ih_lp =>
      intro i hk9 hi ls hl
      refine lv_iload hx hb dV_findFarthest_9 (lv_at hl 3 rfl) ?_
      refine lv_iconst (v := 5) hx hb dV_findFarthest_11 (by decide) ?_
      refine zz_ige (tgt := 54) hx hb dV_findFarthest_12 (by decide) (fun h1 => ?_) (fun h1 => ?_)
      · have h1n := mt (zz_ltN (a := i) (b := 5) rfl rfl (by omega) (by omega)).mpr h1
        refine lv_iload_n hx hb dV_findFarthest_54 rfl (lv_at hl 1 rfl) ?_
        exact zz_iret hx hb hr hlocks dV_findFarthest_55 (by rw [show i = 5 from by omega])
      · have h1n := (zz_ltN (a := i) (b := 5) rfl rfl (by omega) (by omega)).mp h1
        refine lv_aload_n hx hb dV_findFarthest_15 rfl (lv_at hl 0 rfl) ?_
        refine zz_getV hx hb hT hown hK hP 0 rfl 3 (by decide) tw_104 rfl dV_findFarthest_16 ?_
        refine lv_iload hx hb dV_findFarthest_19 (lv_at hl 3 rfl) ?_
        refine zz_call (va_runS (Ts := []) (As := [.int surv, .int (nI i)]) (own := RV) ⟨hx, hb, hml, hown, fun _ h => nomatch h⟩ (ct_V_has l) (zt_cs hT tc_V_has ts_V_has tw_196 ⟨Nat.le_of_ble_eq_true rfl, Nat.le_of_ble_eq_true rfl⟩) (zz_pre0 hT) rfl rfl hl.1 rfl (lv_room (Nat.le_of_ble_eq_true rfl)) dV_findFarthest_21 ⟨Nat.zero_le _, Nat.zero_le _⟩) ?_
        refine zz_zeq (tgt := 48) hx hb dV_findFarthest_24 (by decide) (fun h2 => ?_) (fun h2 => ?_)
        · refine lv_iinc (k := 3) (v := nI (i + 1)) (lv' := [(4, .int (nI (i + 1))), (0, .ref v), (1, .int (nI (zv_ff surv vo i).1)), (2, .long ((zv_ff surv vo i).2))]) hx hb dV_findFarthest_48 hl rfl (nI_succ _).symm (by decide) rfl (fun ls hl => ?_)
          refine lv_goto (tgt := 9) hx hb dV_findFarthest_51 (by decide) ?_
          exact ih_lp (i + 1) (by omega) (by omega) _ (by rw [show nI (zv_ff surv vo (i + 1)).1 = nI (zv_ff surv vo i).1 from congrArg (fun z : Nat × Int64 => nI z.1) (if_neg (fun q => q.1 h2))]; rw [show (zv_ff surv vo (i + 1)).2 = (zv_ff surv vo i).2 from congrArg (fun z : Nat × Int64 => z.2) (if_neg (fun q => q.1 h2))]; exact lv_sub hl [1, 2, 3, 0] rfl)
        · refine lv_aload_n hx hb dV_findFarthest_27 rfl (lv_at hl 0 rfl) ?_
          refine lv_iload hx hb dV_findFarthest_28 (lv_at hl 3 rfl) ?_
          refine zz_call (va_runV (Ts := []) (As := [.int (nI i)]) (own := RV) ⟨hx, hb, hml, hown, fun _ h => nomatch h⟩ (ct_V_spreadOf l (k := i) (by omega)) (zt_cv hT tc_V_spreadOf tv_V_spreadOf tw_223 ⟨Nat.le_of_ble_eq_true rfl, Nat.le_of_ble_eq_true rfl⟩) (zz_preV (q0 := 0) hT hP hK rfl rfl) rfl rfl hl.1 rfl (lv_room (Nat.le_of_ble_eq_true rfl)) dV_findFarthest_30 ⟨Nat.zero_le _, Nat.zero_le _⟩) ?_
          refine lv_lload_n hx hb dV_findFarthest_33 rfl (lv_at hl 2 rfl) ?_
          refine zz_llt (tgt := 48) hx hb dV_findFarthest_34 dV_findFarthest_35 (by decide) (fun h3 => ?_) (fun h3 => ?_)
          · refine lv_iinc (k := 3) (v := nI (i + 1)) (lv' := [(4, .int (nI (i + 1))), (0, .ref v), (1, .int (nI (zv_ff surv vo i).1)), (2, .long ((zv_ff surv vo i).2))]) hx hb dV_findFarthest_48 hl rfl (nI_succ _).symm (by decide) rfl (fun ls hl => ?_)
            refine lv_goto (tgt := 9) hx hb dV_findFarthest_51 (by decide) ?_
            exact ih_lp (i + 1) (by omega) (by omega) _ (by rw [show nI (zv_ff surv vo (i + 1)).1 = nI (zv_ff surv vo i).1 from congrArg (fun z : Nat × Int64 => nI z.1) (if_neg (fun q => q.2 h3))]; rw [show (zv_ff surv vo (i + 1)).2 = (zv_ff surv vo i).2 from congrArg (fun z : Nat × Int64 => z.2) (if_neg (fun q => q.2 h3))]; exact lv_sub hl [1, 2, 3, 0] rfl)
          · refine lv_iload hx hb dV_findFarthest_38 (lv_at hl 3 rfl) ?_
            refine lv_istore_n (lv' := [(1, .int (nI i)), (0, .ref v), (2, .long ((zv_ff surv vo i).2)), (4, .int (nI i))]) hx hb dV_findFarthest_40 rfl hl (by decide) rfl (fun ls hl => ?_)
            refine lv_aload_n hx hb dV_findFarthest_41 rfl (lv_at hl 1 rfl) ?_
            refine lv_iload hx hb dV_findFarthest_42 (lv_at hl 3 rfl) ?_
            refine zz_call (va_runV (Ts := []) (As := [.int (nI i)]) (own := RV) ⟨hx, hb, hml, hown, fun _ h => nomatch h⟩ (ct_V_spreadOf l (k := i) (by omega)) (zt_cv hT tc_V_spreadOf tv_V_spreadOf tw_223 ⟨Nat.le_of_ble_eq_true rfl, Nat.le_of_ble_eq_true rfl⟩) (zz_preV (q0 := 0) hT hP hK rfl rfl) rfl rfl hl.1 rfl (lv_room (Nat.le_of_ble_eq_true rfl)) dV_findFarthest_44 ⟨Nat.zero_le _, Nat.zero_le _⟩) ?_
            refine lv_lstore_n (lv' := [(2, .long (zv_spr surv vo i 5)), (1, .int (nI i)), (0, .ref v), (4, .int (nI i))]) hx hb dV_findFarthest_47 rfl hl (by decide) rfl (fun ls hl => ?_)
            refine lv_iinc (k := 3) (v := nI (i + 1)) (lv' := [(4, .int (nI (i + 1))), (2, .long (zv_spr surv vo i 5)), (1, .int (nI i)), (0, .ref v)]) hx hb dV_findFarthest_48 hl rfl (nI_succ _).symm (by decide) rfl (fun ls hl => ?_)
            refine lv_goto (tgt := 9) hx hb dV_findFarthest_51 (by decide) ?_
            exact ih_lp (i + 1) (by omega) (by omega) _ (by rw [show nI (zv_ff surv vo (i + 1)).1 = nI i from congrArg (fun z : Nat × Int64 => nI z.1) (if_pos ⟨h2, h3⟩)]; rw [show (zv_ff surv vo (i + 1)).2 = zv_spr surv vo i 5 from congrArg (fun z : Nat × Int64 => z.2) (if_pos ⟨h2, h3⟩)]; exact lv_sub hl [3, 2, 1, 0] rfl)
  exact lp (5 - 0 + 1) 0 (by omega) (Nat.zero_le _) _ (by rw [show nI (zv_ff surv vo 0).1 = 0 from rfl]; rw [show (zv_ff surv vo 0).2 = (-1) from rfl]; rw [show nI 0 = 0 from rfl]; exact lv_sub hl [3, 2, 1, 0] rfl)
end
section
/-! What the model's readings are -/
def zm_half (x y : Int64) : Int64 := ((x >>> (Int32.toInt64 1 &&& 63)) + (y >>> (Int32.toInt64 1 &&& 63))) + ((x &&& y) &&& 1)
def zc_half (x y : Int64) : Int64 := (x &&& y) + ((x ^^^ y) >>> (Int32.toInt64 1 &&& 63))
def zm_rd (pk : Nat → Int32) (u : Nat) : Nat → Int64
  | 0 => 0
  | k + 1 => ((zm_rd pk u k) <<< (Int32.toInt64 8 &&& 63)) ||| (Int32.toInt64 (pk (u + k)))
def zm_isv (x : Int32) : Int32 := if ¬ (x < 0) ∧ x < 5 then 1 else 0
def zm_dsp (cam : Nat → Int64) (loc : Int64) (k : Nat) : Int64 := 65536 + (loc - cam k) / 65536
def zm_key (del cam : Nat → Int64) (loc : Int64) (k : Nat) : Int64 := del k / 2 + zm_dsp cam loc k
def zm_best (key : Nat → Int64) (b : Nat) : Nat → Nat
  | 0 => b
  | i + 1 => if key (b + i) < key (zm_best key b i) then b + i else zm_best key b i
theorem zm_best_in (key : Nat → Int64) (b : Nat) : ∀ n, zm_best key b n ≤ b + (n - 1) := by
  intro n
  induction n with
  | zero => exact Nat.le_add_right _ _
  | succ n ih =>
    simp only [zm_best]
    split <;> omega
def zm_b (del cam : Nat → Int64) (loc : Int64) (nn : Nat → Nat) (k : Nat) : Nat := zm_best (zm_key del cam loc) (8 * k) (nn k)
theorem zm_b_lt {del cam : Nat → Int64} {loc : Int64} {nn : Nat → Nat} {k : Nat} (hk : k < 5) (hn : nn k ≤ 8) : zm_b del cam loc nn k < 40 := by
  have := zm_best_in (zm_key del cam loc) (8 * k) (nn k)
  unfold zm_b
  omega
def zm_far (off : Nat → Int64) (own : Int64) (b : Nat) : Nat → Int64
  | 0 => 0
  | i + 1 => if zm_far off own b i < zn_abs (off (b + i) - own) then zn_abs (off (b + i) - own) else zm_far off own b i
def zm_o (off del cam : Nat → Int64) (loc : Int64) (nn : Nat → Nat) (k : Nat) : Int64 := off (zm_b del cam loc nn k)
def zm_jit (off del cam : Nat → Int64) (loc : Int64) (nn : Nat → Nat) (k : Nat) : Int64 := zm_far off (zm_o off del cam loc nn k) (8 * k) (nn k)
def zm_d (rdl rds off del cam : Nat → Int64) (loc : Int64) (nn : Nat → Nat) (k : Nat) : Int64 := rdl k / 2 + del (zm_b del cam loc nn k) / 2 + rds k + zm_dsp cam loc (zm_b del cam loc nn k) + zm_jit off del cam loc nn k
def zm_c (den rch : Nat → Int32) (rdl rds off del cam : Nat → Int64) (loc : Int64) (nn : Nat → Nat) (k : Nat) : Int32 := if (den k = 0 ∧ ¬ (rch k = 0)) ∧ (0 < nn k ∧ zm_d rdl rds off del cam loc nn k < 6442450944) then 1 else 0
def zm_all (cf : Nat → Int32) : Nat → Nat
  | 0 => 0
  | i + 1 => if cf i = 0 then zm_all cf i else zm_all cf i + 1
def zm_tho (cf : Nat → Int32) (of df : Nat → Int64) (x : Int64) : Nat → Nat
  | 0 => 0
  | i + 1 => if ¬ (cf i = 0) ∧ ¬ (df i < zn_abs (x - of i)) then zm_tho cf of df x i + 1 else zm_tho cf of df x i
def zm_com (cf : Nat → Int32) (of df : Nat → Int64) (x : Int64) : Int32 := if nI (zm_all cf 5) < 2 * nI (zm_tho cf of df x 5) then 1 else 0
def zm_spr (ins : Nat → Int32) (of : Nat → Int64) (k : Nat) : Nat → Int64
  | 0 => 0
  | i + 1 => if ins i = 0 then zm_spr ins of k i + 0 else zm_spr ins of k i + zn_abs (of k - of i)
def zm_sum (ins : Nat → Int32) (of : Nat → Int64) : Nat → Int64
  | 0 => 0
  | i + 1 => if ins i = 0 then zm_sum ins of i + 0 else zm_sum ins of i + of i
def zm_cmb (ins : Nat → Int32) (of : Nat → Int64) (n : Int32) : Int64 := if zm_sum ins of 5 < zm_sum ins of 5 / Int32.toInt64 n * Int32.toInt64 n then zm_sum ins of 5 / Int32.toInt64 n - 1 else zm_sum ins of 5 / Int32.toInt64 n
abbrev zm_W (o : Nat) (ad : Nat → Nat) (cI cJ cZ : ClassId) (thr : Int32) (loc slw : Int64) (wst : Int32) (pk den rch pol ask : Nat → Int32) (xp : Nat → Int64) (str : Nat → Int32) (rdl rds : Nat → Int64) (nn : Nat → Nat) (off del cam : Nat → Int64) (ins : Nat → Int32) (low high : Int64) : va_W :=
  [(o, .inr (4, [.int thr, .long loc, .long slw, .int wst, .ref (ad 0), .ref (ad 1), .ref (ad 2), .ref (ad 3), .ref (ad 4), .ref (ad 5), .ref (ad 6), .ref (ad 7), .ref (ad 8), .ref (ad 9), .ref (ad 10), .ref (ad 11), .ref (ad 12), .ref (ad 13), .long low, .long high])),
   (ad 0, .inl (cI, 48, .inl pk)), (ad 1, .inl (cZ, 5, .inl den)), (ad 2, .inl (cI, 5, .inl rch)), (ad 3, .inl (cI, 5, .inl pol)), (ad 4, .inl (cZ, 5, .inl ask)), (ad 5, .inl (cJ, 5, .inr (.inl xp))), (ad 6, .inl (cI, 5, .inl str)), (ad 7, .inl (cJ, 5, .inr (.inl rdl))), (ad 8, .inl (cJ, 5, .inr (.inl rds))),
   (ad 9, .inl (cI, 5, .inl (fun k => nI (nn k)))), (ad 10, .inl (cJ, 40, .inr (.inl off))), (ad 11, .inl (cJ, 40, .inr (.inl del))), (ad 12, .inl (cJ, 40, .inr (.inl cam))), (ad 13, .inl (cZ, 5, .inl ins))]
theorem zz_ti {p : Program} {l : Launch} {e : Env} {R : Room} {s : State} {m : MethodId} {args : Array Value} {below : List Frame} {meth : Method} {c : Code} {H : Heap} {locs : List Loc} {cells slots : Nat} {Q : State → Prop} {pc : Nat} {ls : Array Slot} {rest : List Value} {x y : Int32} (h : x = y) (k : W p l e R s m args below meth c H locs cells slots Q (F0 m pc ls (.int y :: rest))) : W p l e R s m args below meth c H locs cells slots Q (F0 m pc ls (.int x :: rest)) := h ▸ k
theorem zz_tl {p : Program} {l : Launch} {e : Env} {R : Room} {s : State} {m : MethodId} {args : Array Value} {below : List Frame} {meth : Method} {c : Code} {H : Heap} {locs : List Loc} {cells slots : Nat} {Q : State → Prop} {pc : Nat} {ls : Array Slot} {rest : List Value} {x y : Int64} (h : x = y) (k : W p l e R s m args below meth c H locs cells slots Q (F0 m pc ls (.long y :: rest))) : W p l e R s m args below meth c H locs cells slots Q (F0 m pc ls (.long x :: rest)) := h ▸ k
end
section
/-! Readings of the model -/
set_option maxHeartbeats 4000000 in
set_option maxRecDepth 100000 in
theorem ct_M_size (l : Launch) {x : Int64} : Met l yM_size [Cond.code yM_size cM_size 2 (some .long)] { frames := 0, cells := 0, slots := 0, locals := 0 } (va_Pc [.long x] zt_TB) (zz_Q (.long (zn_abs x))) 0 0 (fun _ => False) := by
  refine Met.ofW (cc := cM_size) (maxL := 2) (ret := (some .long)) (by decide) rfl ?_
  intro p e s m args below meth c s₁ B hml hv
  obtain ⟨rfl, hT⟩ := hv
  have hx := B.exec
  have hb := B.bytes
  have hr := B.returns
  have hlocks := B.notSynchronized
  have hown : s.vm.findClass RM = some m.cls := findClass_of_methodNamed B.named
  have hl := lv_entry ([.long x]) (n := 2) (Nat.le_of_ble_eq_true rfl)
  rw [lg_entry_eq]
  generalize (lg_sl ([.long x]) ++ List.replicate (2 - (lg_sl ([.long x])).length) Slot.unset).toArray = ls at hl ⊢
  have hl : lv_has ls 2 [(0, .long x)] := hl
  refine lv_lload_n hx hb dM_size_0 rfl (lv_at hl 0 rfl) ?_
  refine lv_lconst (v := 0) hx hb dM_size_1 (by decide) ?_
  refine zz_lge (tgt := 11) hx hb dM_size_2 dM_size_3 (by decide) (fun h1 => ?_) (fun h1 => ?_)
  · refine lv_lload_n hx hb dM_size_11 rfl (lv_at hl 0 rfl) ?_
    exact zz_lret hx hb hr hlocks dM_size_12 (by first | exact (if_pos h1).symm | exact (if_neg h1).symm)
  · refine lv_lload_n hx hb dM_size_6 rfl (lv_at hl 0 rfl) ?_
    refine lv_lneg hx hb dM_size_7 ?_
    refine lv_goto (tgt := 12) hx hb dM_size_8 (by decide) ?_
    exact zz_lret hx hb hr hlocks dM_size_12 (by first | exact (if_pos h1).symm | exact (if_neg h1).symm)
set_option maxHeartbeats 4000000 in
set_option maxRecDepth 100000 in
theorem ct_M_isServer (l : Launch) {x : Int32} : Met l yM_isServer [Cond.code yM_isServer cM_isServer 1 (some .boolean)] { frames := 0, cells := 0, slots := 0, locals := 0 } (va_Pc [.int x] zt_TB) (zz_Q (.int (zm_isv x))) 0 0 (fun _ => False) := by
  refine Met.ofW (cc := cM_isServer) (maxL := 1) (ret := (some .boolean)) (by decide) rfl ?_
  intro p e s m args below meth c s₁ B hml hv
  obtain ⟨rfl, hT⟩ := hv
  have hx := B.exec
  have hb := B.bytes
  have hr := B.returns
  have hlocks := B.notSynchronized
  have hown : s.vm.findClass RM = some m.cls := findClass_of_methodNamed B.named
  have hl := lv_entry ([.int x]) (n := 1) (Nat.le_of_ble_eq_true rfl)
  rw [lg_entry_eq]
  generalize (lg_sl ([.int x]) ++ List.replicate (1 - (lg_sl ([.int x])).length) Slot.unset).toArray = ls at hl ⊢
  have hl : lv_has ls 1 [(0, .int x)] := hl
  refine lv_iload_n hx hb dM_isServer_0 rfl (lv_at hl 0 rfl) ?_
  refine zz_zlt (tgt := 13) hx hb dM_isServer_1 (by decide) (fun h1 => ?_) (fun h1 => ?_)
  · refine lv_iconst (v := 0) hx hb dM_isServer_13 (by decide) ?_
    exact zz_bret hx hb hr hlocks dM_isServer_14 (by decide) (by unfold zm_isv; first | (rw [if_neg (fun q => q.1 h1)]; done) | (rw [if_neg (fun q => h2 q.2)]; done) | (rw [if_pos ⟨h1, h2⟩]; done))
  · refine lv_iload_n hx hb dM_isServer_4 rfl (lv_at hl 0 rfl) ?_
    refine lv_iconst (v := 5) hx hb dM_isServer_5 (by decide) ?_
    refine zz_ige (tgt := 13) hx hb dM_isServer_6 (by decide) (fun h2 => ?_) (fun h2 => ?_)
    · refine lv_iconst (v := 0) hx hb dM_isServer_13 (by decide) ?_
      exact zz_bret hx hb hr hlocks dM_isServer_14 (by decide) (by unfold zm_isv; first | (rw [if_neg (fun q => q.1 h1)]; done) | (rw [if_neg (fun q => h2 q.2)]; done) | (rw [if_pos ⟨h1, h2⟩]; done))
    · refine lv_iconst (v := 1) hx hb dM_isServer_9 (by decide) ?_
      refine lv_goto (tgt := 14) hx hb dM_isServer_10 (by decide) ?_
      exact zz_bret hx hb hr hlocks dM_isServer_14 (by decide) (by unfold zm_isv; first | (rw [if_neg (fun q => q.1 h1)]; done) | (rw [if_neg (fun q => h2 q.2)]; done) | (rw [if_pos ⟨h1, h2⟩]; done))
set_option maxHeartbeats 4000000 in
set_option maxRecDepth 100000 in
theorem ct_M_half (l : Launch) {x y : Int64} : Met l yM_half [Cond.code yM_half cM_half 4 (some .long)] { frames := 0, cells := 0, slots := 0, locals := 0 } (va_Pc [.long x, .long y] zt_TB) (zz_Q (.long (zm_half x y))) 0 0 (fun _ => False) := by
  refine Met.ofW (cc := cM_half) (maxL := 4) (ret := (some .long)) (by decide) rfl ?_
  intro p e s m args below meth c s₁ B hml hv
  obtain ⟨rfl, hT⟩ := hv
  have hx := B.exec
  have hb := B.bytes
  have hr := B.returns
  have hlocks := B.notSynchronized
  have hown : s.vm.findClass RM = some m.cls := findClass_of_methodNamed B.named
  have hl := lv_entry ([.long x, .long y]) (n := 4) (Nat.le_of_ble_eq_true rfl)
  rw [lg_entry_eq]
  generalize (lg_sl ([.long x, .long y]) ++ List.replicate (4 - (lg_sl ([.long x, .long y])).length) Slot.unset).toArray = ls at hl ⊢
  have hl : lv_has ls 4 [(0, .long x), (2, .long y)] := hl
  refine lv_lload_n hx hb dM_half_0 rfl (lv_at hl 0 rfl) ?_
  refine lv_iconst (v := 1) hx hb dM_half_1 (by decide) ?_
  refine lv_lshr (v := x >>> (Int32.toInt64 1 &&& 63)) hx hb dM_half_2 rfl ?_
  refine lv_lload_n hx hb dM_half_3 rfl (lv_at hl 1 rfl) ?_
  refine lv_iconst (v := 1) hx hb dM_half_4 (by decide) ?_
  refine lv_lshr (v := y >>> (Int32.toInt64 1 &&& 63)) hx hb dM_half_5 rfl ?_
  refine lv_ladd hx hb dM_half_6 ?_
  refine lv_lload_n hx hb dM_half_7 rfl (lv_at hl 0 rfl) ?_
  refine lv_lload_n hx hb dM_half_8 rfl (lv_at hl 1 rfl) ?_
  refine lv_land hx hb dM_half_9 ?_
  refine lv_lconst (v := 1) hx hb dM_half_10 (by decide) ?_
  refine lv_land hx hb dM_half_11 ?_
  refine lv_ladd hx hb dM_half_12 ?_
  exact zz_lret hx hb hr hlocks dM_half_13 (rfl)
set_option maxHeartbeats 4000000 in
set_option maxRecDepth 100000 in
theorem ct_C_halfOfSum (l : Launch) {x y : Int64} : Met l yC_halfOfSum [Cond.code yC_halfOfSum cC_halfOfSum 4 (some .long)] { frames := 0, cells := 0, slots := 0, locals := 0 } (va_Pc [.long x, .long y] zt_TB) (zz_Q (.long (zc_half x y))) 0 0 (fun _ => False) := by
  refine Met.ofW (cc := cC_halfOfSum) (maxL := 4) (ret := (some .long)) (by decide) rfl ?_
  intro p e s m args below meth c s₁ B hml hv
  obtain ⟨rfl, hT⟩ := hv
  have hx := B.exec
  have hb := B.bytes
  have hr := B.returns
  have hlocks := B.notSynchronized
  have hown : s.vm.findClass RC = some m.cls := findClass_of_methodNamed B.named
  have hl := lv_entry ([.long x, .long y]) (n := 4) (Nat.le_of_ble_eq_true rfl)
  rw [lg_entry_eq]
  generalize (lg_sl ([.long x, .long y]) ++ List.replicate (4 - (lg_sl ([.long x, .long y])).length) Slot.unset).toArray = ls at hl ⊢
  have hl : lv_has ls 4 [(0, .long x), (2, .long y)] := hl
  refine lv_lload_n hx hb dC_halfOfSum_0 rfl (lv_at hl 0 rfl) ?_
  refine lv_lload_n hx hb dC_halfOfSum_1 rfl (lv_at hl 1 rfl) ?_
  refine lv_land hx hb dC_halfOfSum_2 ?_
  refine lv_lload_n hx hb dC_halfOfSum_3 rfl (lv_at hl 0 rfl) ?_
  refine lv_lload_n hx hb dC_halfOfSum_4 rfl (lv_at hl 1 rfl) ?_
  refine lv_lxor hx hb dC_halfOfSum_5 ?_
  refine lv_iconst (v := 1) hx hb dC_halfOfSum_6 (by decide) ?_
  refine lv_lshr (v := (x ^^^ y) >>> (Int32.toInt64 1 &&& 63)) hx hb dC_halfOfSum_7 rfl ?_
  refine lv_ladd hx hb dC_halfOfSum_8 ?_
  exact zz_lret hx hb hr hlocks dC_halfOfSum_9 (rfl)
set_option maxHeartbeats 4000000 in
set_option maxRecDepth 100000 in
theorem ct_M_read (l : Launch) {dC : Nat → ClassId} {dI : Nat → Nat → Nat} {cJ cI cB cZ cS : ClassId} {o : Nat} {ad : Nat → Nat} {thr wst : Int32} {loc slw low high : Int64} {pk den rch pol ask str ins : Nat → Int32} {xp rdl rds off del cam : Nat → Int64} {nn : Nat → Nat} {u n : Nat} (hu : u + n ≤ 48) : Met l yM_read [Cond.code yM_read cM_read 6 (some .long)] { frames := 0, cells := 0, slots := 0, locals := 0 } (va_Pc [.ref o, .int (nI u), .int (nI n)] (zz_B (dC, dI) vcl (zz_T cJ cI cB cZ cS) (zm_W o ad cI cJ cZ thr loc slw wst pk den rch pol ask xp str rdl rds nn off del cam ins low high))) (zz_Q (.long (zm_rd pk u n))) 0 0 (fun _ => False) := by
  refine Met.ofW (cc := cM_read) (maxL := 6) (ret := (some .long)) (by decide) rfl ?_
  intro p e s m args below meth c s₁ B hml hv
  obtain ⟨rfl, hT, hP, hK⟩ := hv
  have hx := B.exec
  have hb := B.bytes
  have hr := B.returns
  have hlocks := B.notSynchronized
  have hown : s.vm.findClass RM = some m.cls := findClass_of_methodNamed B.named
  have hl := lv_entry ([.ref o, .int (nI u), .int (nI n)]) (n := 6) (Nat.le_of_ble_eq_true rfl)
  rw [lg_entry_eq]
  generalize (lg_sl ([.ref o, .int (nI u), .int (nI n)]) ++ List.replicate (6 - (lg_sl ([.ref o, .int (nI u), .int (nI n)])).length) Slot.unset).toArray = ls at hl ⊢
  have hl : lv_has ls 6 [(0, .ref o), (1, .int (nI u)), (2, .int (nI n))] := hl
  refine lv_lconst (v := 0) hx hb dM_read_0 (by decide) ?_
  refine lv_lstore_n (lv' := [(3, .long 0), (0, .ref o), (1, .int (nI u)), (2, .int (nI n))]) hx hb dM_read_1 rfl hl (by decide) rfl (fun ls hl => ?_)
  refine lv_iconst (v := 0) hx hb dM_read_2 (by decide) ?_
  refine lv_istore (lv' := [(5, .int 0), (3, .long 0), (0, .ref o), (1, .int (nI u)), (2, .int (nI n))]) hx hb dM_read_3 hl (by decide) rfl (fun ls hl => ?_)
  have lp : ∀ (k9 : Nat) (i : Nat), n - i < k9 → i ≤ n → ∀ ls : Array Slot, lv_has ls 6 [(0, .ref o), (1, .int (nI u)), (2, .int (nI n)), (3, .long (zm_rd pk u i)), (5, .int (nI i))] → W p l e ({ frames := 0, cells := 0, slots := 0, locals := 0 } : Room) s m ([.ref o, .int (nI u), .int (nI n)] : List Value).toArray below meth c s.heap [] 0 0 (MQ below (zz_Q (.long (zm_rd pk u n))) ([.ref o, .int (nI u), .int (nI n)] : List Value).toArray s 0 0 (fun _ => False)) (F0 m 5 ls []) := by
    intro k9
    induction k9 with
    | zero => intro i hk9; exact absurd hk9 (Nat.not_lt_zero _)
    | succ k9 ih_lp =>
      intro i hk9 hi ls hl
      refine lv_iload hx hb dM_read_5 (lv_at hl 4 rfl) ?_
      refine lv_iload_n hx hb dM_read_7 rfl (lv_at hl 2 rfl) ?_
      refine zz_ige (tgt := 33) hx hb dM_read_8 (by decide) (fun h1 => ?_) (fun h1 => ?_)
      · have h1n := mt (zz_ltN (a := i) (b := n) rfl rfl (by omega) (by omega)).mpr h1
        refine lv_lload_n hx hb dM_read_33 rfl (lv_at hl 3 rfl) ?_
        exact zz_lret hx hb hr hlocks dM_read_34 (by rw [show i = n from by omega])
      · have h1n := (zz_ltN (a := i) (b := n) rfl rfl (by omega) (by omega)).mp h1
        refine lv_lload_n hx hb dM_read_11 rfl (lv_at hl 3 rfl) ?_
        refine lv_bipush (v := 8) hx hb dM_read_12 (by decide) ?_
        refine lv_lshl (v := (zm_rd pk u i) <<< (Int32.toInt64 8 &&& 63)) hx hb dM_read_14 rfl ?_
        refine lv_aload_n hx hb dM_read_15 rfl (lv_at hl 0 rfl) ?_
        refine zz_getM hx hb hT hown hK hP 0 rfl 4 (by decide) tw_621 rfl dM_read_16 ?_
        refine lv_iload_n hx hb dM_read_19 rfl (lv_at hl 1 rfl) ?_
        refine lv_iload hx hb dM_read_20 (lv_at hl 4 rfl) ?_
        refine lv_iadd hx hb dM_read_22 ?_
        refine zz_iald hx hb hK hP 1 1 rfl rfl (u + i) (nI_add _ _) (by first | omega | decide | assumption) (by decide) dM_read_23 ?_
        refine lv_i2l (v := Int32.toInt64 (pk (u + i))) hx hb dM_read_24 rfl ?_
        refine lv_lor hx hb dM_read_25 ?_
        refine lv_lstore_n (lv' := [(3, .long (((zm_rd pk u i) <<< (Int32.toInt64 8 &&& 63)) ||| (Int32.toInt64 (pk (u + i))))), (0, .ref o), (1, .int (nI u)), (2, .int (nI n)), (5, .int (nI i))]) hx hb dM_read_26 rfl hl (by decide) rfl (fun ls hl => ?_)
        refine lv_iinc (k := 4) (v := nI (i + 1)) (lv' := [(5, .int (nI (i + 1))), (3, .long (((zm_rd pk u i) <<< (Int32.toInt64 8 &&& 63)) ||| (Int32.toInt64 (pk (u + i))))), (0, .ref o), (1, .int (nI u)), (2, .int (nI n))]) hx hb dM_read_27 hl rfl (nI_succ _).symm (by decide) rfl (fun ls hl => ?_)
        refine lv_goto (tgt := 5) hx hb dM_read_30 (by decide) ?_
        exact ih_lp (i + 1) (by omega) (by omega) _ (by rw [show zm_rd pk u (i + 1) = ((zm_rd pk u i) <<< (Int32.toInt64 8 &&& 63)) ||| (Int32.toInt64 (pk (u + i))) from rfl]; exact lv_sub hl [2, 3, 4, 1, 0] rfl)
  exact lp (n - 0 + 1) 0 (by omega) (Nat.zero_le _) _ (by rw [show zm_rd pk u 0 = 0 from rfl]; rw [show nI 0 = 0 from rfl]; exact lv_sub hl [2, 3, 4, 1, 0] rfl)
set_option maxHeartbeats 4000000 in
set_option maxRecDepth 100000 in
theorem ct_M_dispersion (l : Launch) {dC : Nat → ClassId} {dI : Nat → Nat → Nat} {cJ cI cB cZ cS : ClassId} {o : Nat} {ad : Nat → Nat} {thr wst : Int32} {loc slw low high : Int64} {pk den rch pol ask str ins : Nat → Int32} {xp rdl rds off del cam : Nat → Int64} {nn : Nat → Nat} {k : Nat} (hk : k < 40) : Met l yM_dispersion [Cond.code yM_dispersion cM_dispersion 2 (some .long)] { frames := 0, cells := 0, slots := 0, locals := 0 } (va_Pc [.ref o, .int (nI k)] (zz_B (dC, dI) vcl (zz_T cJ cI cB cZ cS) (zm_W o ad cI cJ cZ thr loc slw wst pk den rch pol ask xp str rdl rds nn off del cam ins low high))) (zz_Q (.long (zm_dsp cam loc k))) 0 0 (fun _ => False) := by
  refine Met.ofW (cc := cM_dispersion) (maxL := 2) (ret := (some .long)) (by decide) rfl ?_
  intro p e s m args below meth c s₁ B hml hv
  obtain ⟨rfl, hT, hP, hK⟩ := hv
  have hx := B.exec
  have hb := B.bytes
  have hr := B.returns
  have hlocks := B.notSynchronized
  have hown : s.vm.findClass RM = some m.cls := findClass_of_methodNamed B.named
  have hl := lv_entry ([.ref o, .int (nI k)]) (n := 2) (Nat.le_of_ble_eq_true rfl)
  rw [lg_entry_eq]
  generalize (lg_sl ([.ref o, .int (nI k)]) ++ List.replicate (2 - (lg_sl ([.ref o, .int (nI k)])).length) Slot.unset).toArray = ls at hl ⊢
  have hl : lv_has ls 2 [(0, .ref o), (1, .int (nI k))] := hl
  refine lv_ldc2 (own := RM) (v := 65536) hx hb hown (hT.w tw_738) dM_dispersion_0 ?_
  refine lv_aload_n hx hb dM_dispersion_3 rfl (lv_at hl 0 rfl) ?_
  refine zz_getM hx hb hT hown hK hP 0 rfl 1 (by decide) tw_618 rfl dM_dispersion_4 ?_
  refine lv_aload_n hx hb dM_dispersion_7 rfl (lv_at hl 0 rfl) ?_
  refine zz_getM hx hb hT hown hK hP 0 rfl 16 (by decide) tw_633 rfl dM_dispersion_8 ?_
  refine lv_iload_n hx hb dM_dispersion_11 rfl (lv_at hl 1 rfl) ?_
  refine zz_lald hx hb hK hP 13 0 rfl rfl k rfl (by first | omega | decide | assumption) (by decide) dM_dispersion_12 ?_
  refine lv_lsub hx hb dM_dispersion_13 ?_
  refine lv_ldc2 (own := RM) (v := 65536) hx hb hown (hT.w tw_738) dM_dispersion_14 ?_
  refine lv_ldiv hx hb dM_dispersion_17 (by decide) ?_
  refine lv_ladd hx hb dM_dispersion_18 ?_
  exact zz_lret hx hb hr hlocks dM_dispersion_19 (rfl)
set_option maxHeartbeats 4000000 in
set_option maxRecDepth 100000 in
theorem ct_M_best (l : Launch) {dC : Nat → ClassId} {dI : Nat → Nat → Nat} {cJ cI cB cZ cS : ClassId} {o : Nat} {ad : Nat → Nat} {thr wst : Int32} {loc slw low high : Int64} {pk den rch pol ask str ins : Nat → Int32} {xp rdl rds off del cam : Nat → Int64} {nn : Nat → Nat} {k : Nat} (hk : k < 5) (hn : nn k ≤ 8) : Met l yM_best [Cond.code yM_best cM_best 5 (some .int)] { frames := 1, cells := 0, slots := 0, locals := 21 } (va_Pc [.ref o, .int (nI k)] (zz_B (dC, dI) vcl (zz_T cJ cI cB cZ cS) (zm_W o ad cI cJ cZ thr loc slw wst pk den rch pol ask xp str rdl rds nn off del cam ins low high))) (zz_Q (.int (nI (zm_b del cam loc nn k)))) 0 0 (fun _ => False) := by
  refine Met.ofW (cc := cM_best) (maxL := 5) (ret := (some .int)) (by decide) rfl ?_
  intro p e s m args below meth c s₁ B hml hv
  obtain ⟨rfl, hT, hP, hK⟩ := hv
  have hx := B.exec
  have hb := B.bytes
  have hr := B.returns
  have hlocks := B.notSynchronized
  have hown : s.vm.findClass RM = some m.cls := findClass_of_methodNamed B.named
  have hl := lv_entry ([.ref o, .int (nI k)]) (n := 5) (Nat.le_of_ble_eq_true rfl)
  rw [lg_entry_eq]
  generalize (lg_sl ([.ref o, .int (nI k)]) ++ List.replicate (5 - (lg_sl ([.ref o, .int (nI k)])).length) Slot.unset).toArray = ls at hl ⊢
  have hl : lv_has ls 5 [(0, .ref o), (1, .int (nI k))] := hl
  refine lv_bipush (v := 8) hx hb dM_best_0 (by decide) ?_
  refine lv_iload_n hx hb dM_best_2 rfl (lv_at hl 1 rfl) ?_
  refine lv_imul hx hb dM_best_3 ?_
  refine zz_ti (y := nI (8 * k)) (pk_mul 8 k) ?_
  refine lv_istore_n (lv' := [(2, .int (nI (8 * k))), (0, .ref o), (1, .int (nI k))]) hx hb dM_best_4 rfl hl (by decide) rfl (fun ls hl => ?_)
  refine lv_bipush (v := 8) hx hb dM_best_5 (by decide) ?_
  refine lv_iload_n hx hb dM_best_7 rfl (lv_at hl 2 rfl) ?_
  refine lv_imul hx hb dM_best_8 ?_
  refine zz_ti (y := nI (8 * k)) (pk_mul 8 k) ?_
  refine lv_istore_n (lv' := [(3, .int (nI (8 * k))), (2, .int (nI (8 * k))), (0, .ref o), (1, .int (nI k))]) hx hb dM_best_9 rfl hl (by decide) rfl (fun ls hl => ?_)
  have lp : ∀ (k9 : Nat) (i : Nat), nn k - i < k9 → i ≤ nn k → zm_best (zm_key del cam loc) (8 * k) i < 40 → ∀ ls : Array Slot, lv_has ls 5 [(0, .ref o), (1, .int (nI k)), (2, .int (nI (zm_best (zm_key del cam loc) (8 * k) i))), (3, .int (nI (8 * k + i)))] → W p l e ({ frames := 1, cells := 0, slots := 0, locals := 21 } : Room) s m ([.ref o, .int (nI k)] : List Value).toArray below meth c s.heap [] 0 0 (MQ below (zz_Q (.int (nI (zm_b del cam loc nn k)))) ([.ref o, .int (nI k)] : List Value).toArray s 0 0 (fun _ => False)) (F0 m 10 ls []) := by
    intro k9
    induction k9 with
    | zero => intro i hk9; exact absurd hk9 (Nat.not_lt_zero _)
    | succ k9 ih_lp =>
      intro i hk9 hi hb9 ls hl
      refine lv_iload_n hx hb dM_best_10 rfl (lv_at hl 3 rfl) ?_
      refine lv_bipush (v := 8) hx hb dM_best_11 (by decide) ?_
      refine lv_iload_n hx hb dM_best_13 rfl (lv_at hl 1 rfl) ?_
      refine lv_imul hx hb dM_best_14 ?_
      refine zz_ti (y := nI (8 * k)) (pk_mul 8 k) ?_
      refine lv_aload_n hx hb dM_best_15 rfl (lv_at hl 0 rfl) ?_
      refine zz_getM hx hb hT hown hK hP 0 rfl 13 (by decide) tw_630 rfl dM_best_16 ?_
      refine lv_iload_n hx hb dM_best_19 rfl (lv_at hl 1 rfl) ?_
      refine zz_iald hx hb hK hP 10 1 rfl rfl k rfl (by first | omega | decide | assumption) (by decide) dM_best_20 ?_
      refine lv_iadd hx hb dM_best_21 ?_
      refine zz_ti (y := nI (8 * k + nn k)) (nI_add _ _) ?_
      refine zz_ige (tgt := 85) hx hb dM_best_22 (by decide) (fun h1 => ?_) (fun h1 => ?_)
      · have h1n := mt (zz_ltN (a := (8 * k + i)) (b := (8 * k + nn k)) rfl rfl (by omega) (by omega)).mpr h1
        refine lv_iload_n hx hb dM_best_85 rfl (lv_at hl 2 rfl) ?_
        exact zz_iret hx hb hr hlocks dM_best_86 (by rw [show i = nn k from by omega]; rfl)
      · have h1n := (zz_ltN (a := (8 * k + i)) (b := (8 * k + nn k)) rfl rfl (by omega) (by omega)).mp h1
        refine lv_aload_n hx hb dM_best_25 rfl (lv_at hl 0 rfl) ?_
        refine zz_getM hx hb hT hown hK hP 0 rfl 15 (by decide) tw_632 rfl dM_best_26 ?_
        refine lv_iload_n hx hb dM_best_29 rfl (lv_at hl 3 rfl) ?_
        refine zz_lald hx hb hK hP 12 0 rfl rfl (8 * k + i) rfl (by first | omega | decide | assumption) (by decide) dM_best_30 ?_
        refine lv_ldc2 (own := RM) (v := 2) hx hb hown (hT.w tw_767) dM_best_31 ?_
        refine lv_ldiv hx hb dM_best_34 (by decide) ?_
        refine lv_aload_n hx hb dM_best_35 rfl (lv_at hl 0 rfl) ?_
        refine lv_iload_n hx hb dM_best_36 rfl (lv_at hl 3 rfl) ?_
        refine zz_call (va_runV (Ts := []) (As := [.int (nI (8 * k + i))]) (own := RM) ⟨hx, hb, hml, hown, fun _ h => nomatch h⟩ (ct_M_dispersion l (k := (8 * k + i)) (by first | omega | exact hb9)) (zt_cv hT tc_M_dispersion tv_M_dispersion tw_768 ⟨Nat.le_of_ble_eq_true rfl, Nat.le_of_ble_eq_true rfl⟩) (zz_preV (q0 := 0) hT hP hK rfl rfl) rfl rfl hl.1 rfl (lv_room (Nat.le_of_ble_eq_true rfl)) dM_best_37 ⟨Nat.zero_le _, Nat.zero_le _⟩) ?_
        refine lv_ladd hx hb dM_best_40 ?_
        refine lv_aload_n hx hb dM_best_41 rfl (lv_at hl 0 rfl) ?_
        refine zz_getM hx hb hT hown hK hP 0 rfl 15 (by decide) tw_632 rfl dM_best_42 ?_
        refine lv_iload_n hx hb dM_best_45 rfl (lv_at hl 2 rfl) ?_
        refine zz_lald hx hb hK hP 12 0 rfl rfl (zm_best (zm_key del cam loc) (8 * k) i) rfl hb9 (by decide) dM_best_46 ?_
        refine lv_ldc2 (own := RM) (v := 2) hx hb hown (hT.w tw_767) dM_best_47 ?_
        refine lv_ldiv hx hb dM_best_50 (by decide) ?_
        refine lv_aload_n hx hb dM_best_51 rfl (lv_at hl 0 rfl) ?_
        refine lv_iload_n hx hb dM_best_52 rfl (lv_at hl 2 rfl) ?_
        refine zz_call (va_runV (Ts := []) (As := [.int (nI (zm_best (zm_key del cam loc) (8 * k) i))]) (own := RM) ⟨hx, hb, hml, hown, fun _ h => nomatch h⟩ (ct_M_dispersion l (k := (zm_best (zm_key del cam loc) (8 * k) i)) (by first | omega | exact hb9)) (zt_cv hT tc_M_dispersion tv_M_dispersion tw_768 ⟨Nat.le_of_ble_eq_true rfl, Nat.le_of_ble_eq_true rfl⟩) (zz_preV (q0 := 0) hT hP hK rfl rfl) rfl rfl hl.1 rfl (lv_room (Nat.le_of_ble_eq_true rfl)) dM_best_53 ⟨Nat.zero_le _, Nat.zero_le _⟩) ?_
        refine lv_ladd hx hb dM_best_56 ?_
        refine zz_lge (tgt := 65) hx hb dM_best_57 dM_best_58 (by decide) (fun h2 => ?_) (fun h2 => ?_)
        · refine lv_iconst (v := 0) hx hb dM_best_65 (by decide) ?_
          refine lv_istore (lv' := [(4, .int 0), (0, .ref o), (1, .int (nI k)), (2, .int (nI (zm_best (zm_key del cam loc) (8 * k) i))), (3, .int (nI (8 * k + i)))]) hx hb dM_best_66 hl (by decide) rfl (fun ls hl => ?_)
          refine lv_iload hx hb dM_best_68 (lv_at hl 0 rfl) ?_
          refine zz_zeq (tgt := 77) hx hb dM_best_70 (by decide) (fun _ => ?_) (fun h => absurd h (by decide))
          refine lv_iload_n hx hb dM_best_77 rfl (lv_at hl 3 rfl) ?_
          refine lv_istore_n (lv' := [(2, .int (nI (zm_best (zm_key del cam loc) (8 * k) i))), (4, .int 0), (0, .ref o), (1, .int (nI k)), (3, .int (nI (8 * k + i)))]) hx hb dM_best_78 rfl hl (by decide) rfl (fun ls hl => ?_)
          refine lv_iinc (k := 4) (v := nI ((8 * k + i) + 1)) (lv' := [(3, .int (nI ((8 * k + i) + 1))), (2, .int (nI (zm_best (zm_key del cam loc) (8 * k) i))), (4, .int 0), (0, .ref o), (1, .int (nI k))]) hx hb dM_best_79 hl rfl (nI_succ _).symm (by decide) rfl (fun ls hl => ?_)
          refine lv_goto (tgt := 10) hx hb dM_best_82 (by decide) ?_
          exact ih_lp (i + 1) (by omega) (by omega) (by have := zm_best_in (zm_key del cam loc) (8 * k) (i + 1); omega) _ (by rw [show nI (zm_best (zm_key del cam loc) (8 * k) (i + 1)) = nI (zm_best (zm_key del cam loc) (8 * k) i) from congrArg nI (if_neg h2)]; rw [show nI (8 * k + (i + 1)) = nI ((8 * k + i) + 1) from rfl]; exact lv_sub hl [3, 4, 1, 0] rfl)
        · refine lv_iconst (v := 1) hx hb dM_best_61 (by decide) ?_
          refine lv_goto (tgt := 66) hx hb dM_best_62 (by decide) ?_
          refine lv_istore (lv' := [(4, .int 1), (0, .ref o), (1, .int (nI k)), (2, .int (nI (zm_best (zm_key del cam loc) (8 * k) i))), (3, .int (nI (8 * k + i)))]) hx hb dM_best_66 hl (by decide) rfl (fun ls hl => ?_)
          refine lv_iload hx hb dM_best_68 (lv_at hl 0 rfl) ?_
          refine zz_zeq (tgt := 77) hx hb dM_best_70 (by decide) (fun h => absurd h (by decide)) (fun _ => ?_)
          refine lv_iload_n hx hb dM_best_73 rfl (lv_at hl 4 rfl) ?_
          refine lv_goto (tgt := 78) hx hb dM_best_74 (by decide) ?_
          refine lv_istore_n (lv' := [(2, .int (nI (8 * k + i))), (4, .int 1), (0, .ref o), (1, .int (nI k)), (3, .int (nI (8 * k + i)))]) hx hb dM_best_78 rfl hl (by decide) rfl (fun ls hl => ?_)
          refine lv_iinc (k := 4) (v := nI ((8 * k + i) + 1)) (lv' := [(3, .int (nI ((8 * k + i) + 1))), (2, .int (nI (8 * k + i))), (4, .int 1), (0, .ref o), (1, .int (nI k))]) hx hb dM_best_79 hl rfl (nI_succ _).symm (by decide) rfl (fun ls hl => ?_)
          refine lv_goto (tgt := 10) hx hb dM_best_82 (by decide) ?_
          exact ih_lp (i + 1) (by omega) (by omega) (by have := zm_best_in (zm_key del cam loc) (8 * k) (i + 1); omega) _ (by rw [show nI (zm_best (zm_key del cam loc) (8 * k) (i + 1)) = nI (8 * k + i) from congrArg nI (if_pos h2)]; rw [show nI (8 * k + (i + 1)) = nI ((8 * k + i) + 1) from rfl]; exact lv_sub hl [3, 4, 1, 0] rfl)
  exact lp (nn k - 0 + 1) 0 (by omega) (Nat.zero_le _) (by show 8 * k < 40; omega) _ (by rw [show nI (zm_best (zm_key del cam loc) (8 * k) 0) = nI (8 * k) from rfl]; rw [show nI (8 * k + 0) = nI (8 * k) from rfl]; exact lv_sub hl [2, 3, 1, 0] rfl)
set_option maxHeartbeats 4000000 in
set_option maxRecDepth 100000 in
theorem ct_M_offsetOf (l : Launch) {dC : Nat → ClassId} {dI : Nat → Nat → Nat} {cJ cI cB cZ cS : ClassId} {o : Nat} {ad : Nat → Nat} {thr wst : Int32} {loc slw low high : Int64} {pk den rch pol ask str ins : Nat → Int32} {xp rdl rds off del cam : Nat → Int64} {nn : Nat → Nat} {k : Nat} (hk : k < 5) (hn : nn k ≤ 8) : Met l yM_offsetOf [Cond.code yM_offsetOf cM_offsetOf 2 (some .long)] { frames := 2, cells := 0, slots := 0, locals := 45 } (va_Pc [.ref o, .int (nI k)] (zz_B (dC, dI) vcl (zz_T cJ cI cB cZ cS) (zm_W o ad cI cJ cZ thr loc slw wst pk den rch pol ask xp str rdl rds nn off del cam ins low high))) (zz_Q (.long (zm_o off del cam loc nn k))) 0 0 (fun _ => False) := by
  refine Met.ofW (cc := cM_offsetOf) (maxL := 2) (ret := (some .long)) (by decide) rfl ?_
  intro p e s m args below meth c s₁ B hml hv
  obtain ⟨rfl, hT, hP, hK⟩ := hv
  have hx := B.exec
  have hb := B.bytes
  have hr := B.returns
  have hlocks := B.notSynchronized
  have hown : s.vm.findClass RM = some m.cls := findClass_of_methodNamed B.named
  have hl := lv_entry ([.ref o, .int (nI k)]) (n := 2) (Nat.le_of_ble_eq_true rfl)
  rw [lg_entry_eq]
  generalize (lg_sl ([.ref o, .int (nI k)]) ++ List.replicate (2 - (lg_sl ([.ref o, .int (nI k)])).length) Slot.unset).toArray = ls at hl ⊢
  have hl : lv_has ls 2 [(0, .ref o), (1, .int (nI k))] := hl
  refine lv_aload_n hx hb dM_offsetOf_0 rfl (lv_at hl 0 rfl) ?_
  refine zz_getM hx hb hT hown hK hP 0 rfl 14 (by decide) tw_631 rfl dM_offsetOf_1 ?_
  refine lv_aload_n hx hb dM_offsetOf_4 rfl (lv_at hl 0 rfl) ?_
  refine lv_iload_n hx hb dM_offsetOf_5 rfl (lv_at hl 1 rfl) ?_
  refine zz_call (va_runV (Ts := []) (As := [.int (nI k)]) (own := RM) ⟨hx, hb, hml, hown, fun _ h => nomatch h⟩ (ct_M_best l (k := k) (by omega) (by first | assumption | exact hn _ (by omega))) (zt_cv hT tc_M_best tv_M_best tw_763 ⟨Nat.le_of_ble_eq_true rfl, Nat.le_of_ble_eq_true rfl⟩) (zz_preV (q0 := 0) hT hP hK rfl rfl) rfl rfl hl.1 rfl (lv_room (Nat.le_of_ble_eq_true rfl)) dM_offsetOf_6 ⟨Nat.zero_le _, Nat.zero_le _⟩) ?_
  refine zz_lald hx hb hK hP 11 0 rfl rfl (zm_b del cam loc nn k) rfl (zm_b_lt (by omega) (by first | assumption | exact hn _ (by omega))) (by decide) dM_offsetOf_9 ?_
  exact zz_lret hx hb hr hlocks dM_offsetOf_10 (rfl)
set_option maxHeartbeats 4000000 in
set_option maxRecDepth 100000 in
theorem ct_M_jitterOf (l : Launch) {dC : Nat → ClassId} {dI : Nat → Nat → Nat} {cJ cI cB cZ cS : ClassId} {o : Nat} {ad : Nat → Nat} {thr wst : Int32} {loc slw low high : Int64} {pk den rch pol ask str ins : Nat → Int32} {xp rdl rds off del cam : Nat → Int64} {nn : Nat → Nat} {k : Nat} (hk : k < 5) (hn : nn k ≤ 8) : Met l yM_jitterOf [Cond.code yM_jitterOf cM_jitterOf 9 (some .long)] { frames := 2, cells := 0, slots := 0, locals := 45 } (va_Pc [.ref o, .int (nI k)] (zz_B (dC, dI) vcl (zz_T cJ cI cB cZ cS) (zm_W o ad cI cJ cZ thr loc slw wst pk den rch pol ask xp str rdl rds nn off del cam ins low high))) (zz_Q (.long (zm_jit off del cam loc nn k))) 0 0 (fun _ => False) := by
  refine Met.ofW (cc := cM_jitterOf) (maxL := 9) (ret := (some .long)) (by decide) rfl ?_
  intro p e s m args below meth c s₁ B hml hv
  obtain ⟨rfl, hT, hP, hK⟩ := hv
  have hx := B.exec
  have hb := B.bytes
  have hr := B.returns
  have hlocks := B.notSynchronized
  have hown : s.vm.findClass RM = some m.cls := findClass_of_methodNamed B.named
  have hl := lv_entry ([.ref o, .int (nI k)]) (n := 9) (Nat.le_of_ble_eq_true rfl)
  rw [lg_entry_eq]
  generalize (lg_sl ([.ref o, .int (nI k)]) ++ List.replicate (9 - (lg_sl ([.ref o, .int (nI k)])).length) Slot.unset).toArray = ls at hl ⊢
  have hl : lv_has ls 9 [(0, .ref o), (1, .int (nI k))] := hl
  refine lv_aload_n hx hb dM_jitterOf_0 rfl (lv_at hl 0 rfl) ?_
  refine zz_getM hx hb hT hown hK hP 0 rfl 14 (by decide) tw_631 rfl dM_jitterOf_1 ?_
  refine lv_aload_n hx hb dM_jitterOf_4 rfl (lv_at hl 0 rfl) ?_
  refine lv_iload_n hx hb dM_jitterOf_5 rfl (lv_at hl 1 rfl) ?_
  refine zz_call (va_runV (Ts := []) (As := [.int (nI k)]) (own := RM) ⟨hx, hb, hml, hown, fun _ h => nomatch h⟩ (ct_M_best l (k := k) (by omega) (by first | assumption | exact hn _ (by omega))) (zt_cv hT tc_M_best tv_M_best tw_763 ⟨Nat.le_of_ble_eq_true rfl, Nat.le_of_ble_eq_true rfl⟩) (zz_preV (q0 := 0) hT hP hK rfl rfl) rfl rfl hl.1 rfl (lv_room (Nat.le_of_ble_eq_true rfl)) dM_jitterOf_6 ⟨Nat.zero_le _, Nat.zero_le _⟩) ?_
  refine zz_lald hx hb hK hP 11 0 rfl rfl (zm_b del cam loc nn k) rfl (zm_b_lt (by omega) (by first | assumption | exact hn _ (by omega))) (by decide) dM_jitterOf_9 ?_
  refine zz_tl (y := zm_o off del cam loc nn k) (rfl) ?_
  refine lv_lstore_n (lv' := [(2, .long (zm_o off del cam loc nn k)), (0, .ref o), (1, .int (nI k))]) hx hb dM_jitterOf_10 rfl hl (by decide) rfl (fun ls hl => ?_)
  refine lv_lconst (v := 0) hx hb dM_jitterOf_11 (by decide) ?_
  refine lv_lstore (lv' := [(4, .long 0), (2, .long (zm_o off del cam loc nn k)), (0, .ref o), (1, .int (nI k))]) hx hb dM_jitterOf_12 hl (by decide) rfl (fun ls hl => ?_)
  refine lv_bipush (v := 8) hx hb dM_jitterOf_14 (by decide) ?_
  refine lv_iload_n hx hb dM_jitterOf_16 rfl (lv_at hl 3 rfl) ?_
  refine lv_imul hx hb dM_jitterOf_17 ?_
  refine zz_ti (y := nI (8 * k)) (pk_mul 8 k) ?_
  refine lv_istore (lv' := [(6, .int (nI (8 * k))), (4, .long 0), (2, .long (zm_o off del cam loc nn k)), (0, .ref o), (1, .int (nI k))]) hx hb dM_jitterOf_18 hl (by decide) rfl (fun ls hl => ?_)
  have lp : ∀ (k9 : Nat) (i : Nat), nn k - i < k9 → i ≤ nn k → ∀ ls : Array Slot, lv_has ls 9 [(0, .ref o), (1, .int (nI k)), (2, .long (zm_o off del cam loc nn k)), (4, .long (zm_far off (zm_o off del cam loc nn k) (8 * k) i)), (6, .int (nI (8 * k + i)))] → W p l e ({ frames := 2, cells := 0, slots := 0, locals := 45 } : Room) s m ([.ref o, .int (nI k)] : List Value).toArray below meth c s.heap [] 0 0 (MQ below (zz_Q (.long (zm_jit off del cam loc nn k))) ([.ref o, .int (nI k)] : List Value).toArray s 0 0 (fun _ => False)) (F0 m 20 ls []) := by
    intro k9
    induction k9 with
    | zero => intro i hk9; exact absurd hk9 (Nat.not_lt_zero _)
    | succ k9 ih_lp =>
      intro i hk9 hi ls hl
      refine lv_iload hx hb dM_jitterOf_20 (lv_at hl 4 rfl) ?_
      refine lv_bipush (v := 8) hx hb dM_jitterOf_22 (by decide) ?_
      refine lv_iload_n hx hb dM_jitterOf_24 rfl (lv_at hl 1 rfl) ?_
      refine lv_imul hx hb dM_jitterOf_25 ?_
      refine zz_ti (y := nI (8 * k)) (pk_mul 8 k) ?_
      refine lv_aload_n hx hb dM_jitterOf_26 rfl (lv_at hl 0 rfl) ?_
      refine zz_getM hx hb hT hown hK hP 0 rfl 13 (by decide) tw_630 rfl dM_jitterOf_27 ?_
      refine lv_iload_n hx hb dM_jitterOf_30 rfl (lv_at hl 1 rfl) ?_
      refine zz_iald hx hb hK hP 10 1 rfl rfl k rfl (by first | omega | decide | assumption) (by decide) dM_jitterOf_31 ?_
      refine lv_iadd hx hb dM_jitterOf_32 ?_
      refine zz_ti (y := nI (8 * k + nn k)) (nI_add _ _) ?_
      refine zz_ige (tgt := 73) hx hb dM_jitterOf_33 (by decide) (fun h1 => ?_) (fun h1 => ?_)
      · have h1n := mt (zz_ltN (a := (8 * k + i)) (b := (8 * k + nn k)) rfl rfl (by omega) (by omega)).mpr h1
        refine lv_lload hx hb dM_jitterOf_73 (lv_at hl 3 rfl) ?_
        exact zz_lret hx hb hr hlocks dM_jitterOf_75 (by rw [show i = nn k from by omega]; rfl)
      · have h1n := (zz_ltN (a := (8 * k + i)) (b := (8 * k + nn k)) rfl rfl (by omega) (by omega)).mp h1
        refine lv_aload_n hx hb dM_jitterOf_36 rfl (lv_at hl 0 rfl) ?_
        refine zz_getM hx hb hT hown hK hP 0 rfl 14 (by decide) tw_631 rfl dM_jitterOf_37 ?_
        refine lv_iload hx hb dM_jitterOf_40 (lv_at hl 4 rfl) ?_
        refine zz_lald hx hb hK hP 11 0 rfl rfl (8 * k + i) rfl (by first | omega | decide | assumption) (by decide) dM_jitterOf_42 ?_
        refine lv_lload_n hx hb dM_jitterOf_43 rfl (lv_at hl 2 rfl) ?_
        refine lv_lsub hx hb dM_jitterOf_44 ?_
        refine zz_call (va_runS (Ts := []) (As := [.long ((off (8 * k + i)) - (zm_o off del cam loc nn k))]) (own := RM) ⟨hx, hb, hml, hown, fun _ h => nomatch h⟩ (ct_M_size l) (zt_cs hT tc_M_size ts_M_size tw_784 ⟨Nat.le_of_ble_eq_true rfl, Nat.le_of_ble_eq_true rfl⟩) (zz_pre0 hT) rfl rfl hl.1 rfl (lv_room (Nat.le_of_ble_eq_true rfl)) dM_jitterOf_45 ⟨Nat.zero_le _, Nat.zero_le _⟩) ?_
        refine lv_lstore (lv' := [(7, .long (zn_abs ((off (8 * k + i)) - (zm_o off del cam loc nn k)))), (0, .ref o), (1, .int (nI k)), (2, .long (zm_o off del cam loc nn k)), (4, .long (zm_far off (zm_o off del cam loc nn k) (8 * k) i)), (6, .int (nI (8 * k + i)))]) hx hb dM_jitterOf_48 hl (by decide) rfl (fun ls hl => ?_)
        refine lv_lload hx hb dM_jitterOf_50 (lv_at hl 0 rfl) ?_
        refine lv_lload hx hb dM_jitterOf_52 (lv_at hl 4 rfl) ?_
        refine zz_lle (tgt := 63) hx hb dM_jitterOf_54 dM_jitterOf_55 (by decide) (fun h2 => ?_) (fun h2 => ?_)
        · refine lv_lload hx hb dM_jitterOf_63 (lv_at hl 4 rfl) ?_
          refine lv_lstore (lv' := [(4, .long (zm_far off (zm_o off del cam loc nn k) (8 * k) i)), (7, .long (zn_abs ((off (8 * k + i)) - (zm_o off del cam loc nn k)))), (0, .ref o), (1, .int (nI k)), (2, .long (zm_o off del cam loc nn k)), (6, .int (nI (8 * k + i)))]) hx hb dM_jitterOf_65 hl (by decide) rfl (fun ls hl => ?_)
          refine lv_iinc (k := 5) (v := nI ((8 * k + i) + 1)) (lv' := [(6, .int (nI ((8 * k + i) + 1))), (4, .long (zm_far off (zm_o off del cam loc nn k) (8 * k) i)), (7, .long (zn_abs ((off (8 * k + i)) - (zm_o off del cam loc nn k)))), (0, .ref o), (1, .int (nI k)), (2, .long (zm_o off del cam loc nn k))]) hx hb dM_jitterOf_67 hl rfl (nI_succ _).symm (by decide) rfl (fun ls hl => ?_)
          refine lv_goto (tgt := 20) hx hb dM_jitterOf_70 (by decide) ?_
          exact ih_lp (i + 1) (by omega) (by omega) _ (by rw [show zm_far off (zm_o off del cam loc nn k) (8 * k) (i + 1) = zm_far off (zm_o off del cam loc nn k) (8 * k) i from if_neg h2]; rw [show nI (8 * k + (i + 1)) = nI ((8 * k + i) + 1) from rfl]; exact lv_sub hl [3, 4, 5, 1, 0] rfl)
        · refine lv_lload hx hb dM_jitterOf_58 (lv_at hl 0 rfl) ?_
          refine lv_goto (tgt := 65) hx hb dM_jitterOf_60 (by decide) ?_
          refine lv_lstore (lv' := [(4, .long (zn_abs ((off (8 * k + i)) - (zm_o off del cam loc nn k)))), (7, .long (zn_abs ((off (8 * k + i)) - (zm_o off del cam loc nn k)))), (0, .ref o), (1, .int (nI k)), (2, .long (zm_o off del cam loc nn k)), (6, .int (nI (8 * k + i)))]) hx hb dM_jitterOf_65 hl (by decide) rfl (fun ls hl => ?_)
          refine lv_iinc (k := 5) (v := nI ((8 * k + i) + 1)) (lv' := [(6, .int (nI ((8 * k + i) + 1))), (4, .long (zn_abs ((off (8 * k + i)) - (zm_o off del cam loc nn k)))), (7, .long (zn_abs ((off (8 * k + i)) - (zm_o off del cam loc nn k)))), (0, .ref o), (1, .int (nI k)), (2, .long (zm_o off del cam loc nn k))]) hx hb dM_jitterOf_67 hl rfl (nI_succ _).symm (by decide) rfl (fun ls hl => ?_)
          refine lv_goto (tgt := 20) hx hb dM_jitterOf_70 (by decide) ?_
          exact ih_lp (i + 1) (by omega) (by omega) _ (by rw [show zm_far off (zm_o off del cam loc nn k) (8 * k) (i + 1) = zn_abs ((off (8 * k + i)) - (zm_o off del cam loc nn k)) from if_pos h2]; rw [show nI (8 * k + (i + 1)) = nI ((8 * k + i) + 1) from rfl]; exact lv_sub hl [3, 4, 5, 1, 0] rfl)
  exact lp (nn k - 0 + 1) 0 (by omega) (Nat.zero_le _) _ (by rw [show zm_far off (zm_o off del cam loc nn k) (8 * k) 0 = 0 from rfl]; rw [show nI (8 * k + 0) = nI (8 * k) from rfl]; exact lv_sub hl [3, 4, 2, 1, 0] rfl)
set_option maxHeartbeats 4000000 in
set_option maxRecDepth 100000 in
theorem ct_M_distanceOf (l : Launch) {dC : Nat → ClassId} {dI : Nat → Nat → Nat} {cJ cI cB cZ cS : ClassId} {o : Nat} {ad : Nat → Nat} {thr wst : Int32} {loc slw low high : Int64} {pk den rch pol ask str ins : Nat → Int32} {xp rdl rds off del cam : Nat → Int64} {nn : Nat → Nat} {k : Nat} (hk : k < 5) (hn : nn k ≤ 8) : Met l yM_distanceOf [Cond.code yM_distanceOf cM_distanceOf 3 (some .long)] { frames := 3, cells := 0, slots := 0, locals := 73 } (va_Pc [.ref o, .int (nI k)] (zz_B (dC, dI) vcl (zz_T cJ cI cB cZ cS) (zm_W o ad cI cJ cZ thr loc slw wst pk den rch pol ask xp str rdl rds nn off del cam ins low high))) (zz_Q (.long (zm_d rdl rds off del cam loc nn k))) 0 0 (fun _ => False) := by
  refine Met.ofW (cc := cM_distanceOf) (maxL := 3) (ret := (some .long)) (by decide) rfl ?_
  intro p e s m args below meth c s₁ B hml hv
  obtain ⟨rfl, hT, hP, hK⟩ := hv
  have hx := B.exec
  have hb := B.bytes
  have hr := B.returns
  have hlocks := B.notSynchronized
  have hown : s.vm.findClass RM = some m.cls := findClass_of_methodNamed B.named
  have hl := lv_entry ([.ref o, .int (nI k)]) (n := 3) (Nat.le_of_ble_eq_true rfl)
  rw [lg_entry_eq]
  generalize (lg_sl ([.ref o, .int (nI k)]) ++ List.replicate (3 - (lg_sl ([.ref o, .int (nI k)])).length) Slot.unset).toArray = ls at hl ⊢
  have hl : lv_has ls 3 [(0, .ref o), (1, .int (nI k))] := hl
  refine lv_aload_n hx hb dM_distanceOf_0 rfl (lv_at hl 0 rfl) ?_
  refine lv_iload_n hx hb dM_distanceOf_1 rfl (lv_at hl 1 rfl) ?_
  refine zz_call (va_runV (Ts := []) (As := [.int (nI k)]) (own := RM) ⟨hx, hb, hml, hown, fun _ h => nomatch h⟩ (ct_M_best l (k := k) (by omega) (by first | assumption | exact hn _ (by omega))) (zt_cv hT tc_M_best tv_M_best tw_763 ⟨Nat.le_of_ble_eq_true rfl, Nat.le_of_ble_eq_true rfl⟩) (zz_preV (q0 := 0) hT hP hK rfl rfl) rfl rfl hl.1 rfl (lv_room (Nat.le_of_ble_eq_true rfl)) dM_distanceOf_2 ⟨Nat.zero_le _, Nat.zero_le _⟩) ?_
  refine lv_istore_n (lv' := [(2, .int (nI (zm_b del cam loc nn k))), (0, .ref o), (1, .int (nI k))]) hx hb dM_distanceOf_5 rfl hl (by decide) rfl (fun ls hl => ?_)
  refine lv_aload_n hx hb dM_distanceOf_6 rfl (lv_at hl 1 rfl) ?_
  refine zz_getM hx hb hT hown hK hP 0 rfl 11 (by decide) tw_628 rfl dM_distanceOf_7 ?_
  refine lv_iload_n hx hb dM_distanceOf_10 rfl (lv_at hl 2 rfl) ?_
  refine zz_lald hx hb hK hP 8 0 rfl rfl k rfl (by first | omega | decide | assumption) (by decide) dM_distanceOf_11 ?_
  refine lv_ldc2 (own := RM) (v := 2) hx hb hown (hT.w tw_767) dM_distanceOf_12 ?_
  refine lv_ldiv hx hb dM_distanceOf_15 (by decide) ?_
  refine lv_aload_n hx hb dM_distanceOf_16 rfl (lv_at hl 1 rfl) ?_
  refine zz_getM hx hb hT hown hK hP 0 rfl 15 (by decide) tw_632 rfl dM_distanceOf_17 ?_
  refine lv_iload_n hx hb dM_distanceOf_20 rfl (lv_at hl 0 rfl) ?_
  refine zz_lald hx hb hK hP 12 0 rfl rfl (zm_b del cam loc nn k) rfl (zm_b_lt (by omega) (by first | assumption | exact hn _ (by omega))) (by decide) dM_distanceOf_21 ?_
  refine lv_ldc2 (own := RM) (v := 2) hx hb hown (hT.w tw_767) dM_distanceOf_22 ?_
  refine lv_ldiv hx hb dM_distanceOf_25 (by decide) ?_
  refine lv_ladd hx hb dM_distanceOf_26 ?_
  refine lv_aload_n hx hb dM_distanceOf_27 rfl (lv_at hl 1 rfl) ?_
  refine zz_getM hx hb hT hown hK hP 0 rfl 12 (by decide) tw_629 rfl dM_distanceOf_28 ?_
  refine lv_iload_n hx hb dM_distanceOf_31 rfl (lv_at hl 2 rfl) ?_
  refine zz_lald hx hb hK hP 9 0 rfl rfl k rfl (by first | omega | decide | assumption) (by decide) dM_distanceOf_32 ?_
  refine lv_ladd hx hb dM_distanceOf_33 ?_
  refine lv_aload_n hx hb dM_distanceOf_34 rfl (lv_at hl 1 rfl) ?_
  refine lv_iload_n hx hb dM_distanceOf_35 rfl (lv_at hl 0 rfl) ?_
  refine zz_call (va_runV (Ts := []) (As := [.int (nI (zm_b del cam loc nn k))]) (own := RM) ⟨hx, hb, hml, hown, fun _ h => nomatch h⟩ (ct_M_dispersion l (k := (zm_b del cam loc nn k)) (zm_b_lt (by omega) (by first | assumption | exact hn _ (by omega)))) (zt_cv hT tc_M_dispersion tv_M_dispersion tw_768 ⟨Nat.le_of_ble_eq_true rfl, Nat.le_of_ble_eq_true rfl⟩) (zz_preV (q0 := 0) hT hP hK rfl rfl) rfl rfl hl.1 rfl (lv_room (Nat.le_of_ble_eq_true rfl)) dM_distanceOf_36 ⟨Nat.zero_le _, Nat.zero_le _⟩) ?_
  refine lv_ladd hx hb dM_distanceOf_39 ?_
  refine lv_aload_n hx hb dM_distanceOf_40 rfl (lv_at hl 1 rfl) ?_
  refine lv_iload_n hx hb dM_distanceOf_41 rfl (lv_at hl 2 rfl) ?_
  refine zz_call (va_runV (Ts := []) (As := [.int (nI k)]) (own := RM) ⟨hx, hb, hml, hown, fun _ h => nomatch h⟩ (ct_M_jitterOf l (k := k) (by omega) (by first | assumption | exact hn _ (by omega))) (zt_cv hT tc_M_jitterOf tv_M_jitterOf tw_780 ⟨Nat.le_of_ble_eq_true rfl, Nat.le_of_ble_eq_true rfl⟩) (zz_preV (q0 := 0) hT hP hK rfl rfl) rfl rfl hl.1 rfl (lv_room (Nat.le_of_ble_eq_true rfl)) dM_distanceOf_42 ⟨Nat.zero_le _, Nat.zero_le _⟩) ?_
  refine lv_ladd hx hb dM_distanceOf_45 ?_
  exact zz_lret hx hb hr hlocks dM_distanceOf_46 (rfl)
set_option maxHeartbeats 4000000 in
set_option maxRecDepth 100000 in
theorem ct_M_isCandidate (l : Launch) {dC : Nat → ClassId} {dI : Nat → Nat → Nat} {cJ cI cB cZ cS : ClassId} {o : Nat} {ad : Nat → Nat} {thr wst : Int32} {loc slw low high : Int64} {pk den rch pol ask str ins : Nat → Int32} {xp rdl rds off del cam : Nat → Int64} {nn : Nat → Nat} {k : Nat} (hk : k < 5) (hn : nn k ≤ 8) : Met l yM_isCandidate [Cond.code yM_isCandidate cM_isCandidate 2 (some .boolean)] { frames := 4, cells := 0, slots := 0, locals := 95 } (va_Pc [.ref o, .int (nI k)] (zz_B (dC, dI) vcl (zz_T cJ cI cB cZ cS) (zm_W o ad cI cJ cZ thr loc slw wst pk den rch pol ask xp str rdl rds nn off del cam ins low high))) (zz_Q (.int (zm_c den rch rdl rds off del cam loc nn k))) 0 0 (fun _ => False) := by
  refine Met.ofW (cc := cM_isCandidate) (maxL := 2) (ret := (some .boolean)) (by decide) rfl ?_
  intro p e s m args below meth c s₁ B hml hv
  obtain ⟨rfl, hT, hP, hK⟩ := hv
  have hx := B.exec
  have hb := B.bytes
  have hr := B.returns
  have hlocks := B.notSynchronized
  have hown : s.vm.findClass RM = some m.cls := findClass_of_methodNamed B.named
  have hl := lv_entry ([.ref o, .int (nI k)]) (n := 2) (Nat.le_of_ble_eq_true rfl)
  rw [lg_entry_eq]
  generalize (lg_sl ([.ref o, .int (nI k)]) ++ List.replicate (2 - (lg_sl ([.ref o, .int (nI k)])).length) Slot.unset).toArray = ls at hl ⊢
  have hl : lv_has ls 2 [(0, .ref o), (1, .int (nI k))] := hl
  refine lv_aload_n hx hb dM_isCandidate_0 rfl (lv_at hl 0 rfl) ?_
  refine zz_getM hx hb hT hown hK hP 0 rfl 5 (by decide) tw_622 rfl dM_isCandidate_1 ?_
  refine lv_iload_n hx hb dM_isCandidate_4 rfl (lv_at hl 1 rfl) ?_
  refine zz_zald hx hb hK hP 2 3 rfl rfl k rfl (by first | omega | decide | assumption) (by decide) dM_isCandidate_5 ?_
  refine zz_zne (tgt := 43) hx hb dM_isCandidate_6 (by decide) (fun h1 => ?_) (fun h1 => ?_)
  · refine lv_iconst (v := 0) hx hb dM_isCandidate_43 (by decide) ?_
    exact zz_bret hx hb hr hlocks dM_isCandidate_44 (by decide) (by unfold zm_c; rw [if_neg (fun q => h1 q.1.1)])
  · refine lv_aload_n hx hb dM_isCandidate_9 rfl (lv_at hl 0 rfl) ?_
    refine zz_getM hx hb hT hown hK hP 0 rfl 6 (by decide) tw_623 rfl dM_isCandidate_10 ?_
    refine lv_iload_n hx hb dM_isCandidate_13 rfl (lv_at hl 1 rfl) ?_
    refine zz_iald hx hb hK hP 3 1 rfl rfl k rfl (by first | omega | decide | assumption) (by decide) dM_isCandidate_14 ?_
    refine zz_zeq (tgt := 43) hx hb dM_isCandidate_15 (by decide) (fun h2 => ?_) (fun h2 => ?_)
    · refine lv_iconst (v := 0) hx hb dM_isCandidate_43 (by decide) ?_
      exact zz_bret hx hb hr hlocks dM_isCandidate_44 (by decide) (by unfold zm_c; rw [if_neg (fun q => q.1.2 h2)])
    · refine lv_aload_n hx hb dM_isCandidate_18 rfl (lv_at hl 0 rfl) ?_
      refine zz_getM hx hb hT hown hK hP 0 rfl 13 (by decide) tw_630 rfl dM_isCandidate_19 ?_
      refine lv_iload_n hx hb dM_isCandidate_22 rfl (lv_at hl 1 rfl) ?_
      refine zz_iald hx hb hK hP 10 1 rfl rfl k rfl (by first | omega | decide | assumption) (by decide) dM_isCandidate_23 ?_
      refine zz_zle (tgt := 43) hx hb dM_isCandidate_24 (by decide) (fun h3 => ?_) (fun h3 => ?_)
      · have h3n := mt (zz_ltN (a := 0) (b := (nn k)) rfl rfl (by omega) (by omega)).mpr h3
        refine lv_iconst (v := 0) hx hb dM_isCandidate_43 (by decide) ?_
        exact zz_bret hx hb hr hlocks dM_isCandidate_44 (by decide) (by unfold zm_c; rw [if_neg (fun q => h3n q.2.1)])
      · have h3n := (zz_ltN (a := 0) (b := (nn k)) rfl rfl (by omega) (by omega)).mp h3
        refine lv_aload_n hx hb dM_isCandidate_27 rfl (lv_at hl 0 rfl) ?_
        refine lv_iload_n hx hb dM_isCandidate_28 rfl (lv_at hl 1 rfl) ?_
        refine zz_call (va_runV (Ts := []) (As := [.int (nI k)]) (own := RM) ⟨hx, hb, hml, hown, fun _ h => nomatch h⟩ (ct_M_distanceOf l (k := k) (by omega) (by first | assumption | exact hn _ (by omega))) (zt_cv hT tc_M_distanceOf tv_M_distanceOf tw_791 ⟨Nat.le_of_ble_eq_true rfl, Nat.le_of_ble_eq_true rfl⟩) (zz_preV (q0 := 0) hT hP hK rfl rfl) rfl rfl hl.1 rfl (lv_room (Nat.le_of_ble_eq_true rfl)) dM_isCandidate_29 ⟨Nat.zero_le _, Nat.zero_le _⟩) ?_
        refine lv_ldc2 (own := RM) (v := 6442450944) hx hb hown (hT.w tw_803) dM_isCandidate_32 ?_
        refine zz_lge (tgt := 43) hx hb dM_isCandidate_35 dM_isCandidate_36 (by decide) (fun h4 => ?_) (fun h4 => ?_)
        · refine lv_iconst (v := 0) hx hb dM_isCandidate_43 (by decide) ?_
          exact zz_bret hx hb hr hlocks dM_isCandidate_44 (by decide) (by unfold zm_c; rw [if_neg (fun q => h4 q.2.2)])
        · refine lv_iconst (v := 1) hx hb dM_isCandidate_39 (by decide) ?_
          refine lv_goto (tgt := 44) hx hb dM_isCandidate_40 (by decide) ?_
          exact zz_bret hx hb hr hlocks dM_isCandidate_44 (by decide) (by unfold zm_c; rw [if_pos ⟨⟨h1, h2⟩, h3n, h4⟩])
set_option maxHeartbeats 4000000 in
set_option maxRecDepth 100000 in
theorem ct_M_isCommon (l : Launch) {dC : Nat → ClassId} {dI : Nat → Nat → Nat} {cJ cI cB cZ cS : ClassId} {o : Nat} {ad : Nat → Nat} {thr wst : Int32} {loc slw low high : Int64} {pk den rch pol ask str ins : Nat → Int32} {xp rdl rds off del cam : Nat → Int64} {nn : Nat → Nat} {x : Int64} (hn : ∀ k, k < 5 → nn k ≤ 8) : Met l yM_isCommon [Cond.code yM_isCommon cM_isCommon 6 (some .boolean)] { frames := 5, cells := 0, slots := 0, locals := 116 } (va_Pc [.ref o, .long x] (zz_B (dC, dI) vcl (zz_T cJ cI cB cZ cS) (zm_W o ad cI cJ cZ thr loc slw wst pk den rch pol ask xp str rdl rds nn off del cam ins low high))) (zz_Q (.int (zm_com (zm_c den rch rdl rds off del cam loc nn) (zm_o off del cam loc nn) (zm_d rdl rds off del cam loc nn) x))) 0 0 (fun _ => False) := by
  refine Met.ofW (cc := cM_isCommon) (maxL := 6) (ret := (some .boolean)) (by decide) rfl ?_
  intro p e s m args below meth c s₁ B hml hv
  obtain ⟨rfl, hT, hP, hK⟩ := hv
  have hx := B.exec
  have hb := B.bytes
  have hr := B.returns
  have hlocks := B.notSynchronized
  have hown : s.vm.findClass RM = some m.cls := findClass_of_methodNamed B.named
  have hl := lv_entry ([.ref o, .long x]) (n := 6) (Nat.le_of_ble_eq_true rfl)
  rw [lg_entry_eq]
  generalize (lg_sl ([.ref o, .long x]) ++ List.replicate (6 - (lg_sl ([.ref o, .long x])).length) Slot.unset).toArray = ls at hl ⊢
  have hl : lv_has ls 6 [(0, .ref o), (1, .long x)] := hl
  refine lv_iconst (v := 0) hx hb dM_isCommon_0 (by decide) ?_
  refine lv_istore_n (lv' := [(3, .int 0), (0, .ref o), (1, .long x)]) hx hb dM_isCommon_1 rfl hl (by decide) rfl (fun ls hl => ?_)
  refine lv_iconst (v := 0) hx hb dM_isCommon_2 (by decide) ?_
  refine lv_istore (lv' := [(4, .int 0), (3, .int 0), (0, .ref o), (1, .long x)]) hx hb dM_isCommon_3 hl (by decide) rfl (fun ls hl => ?_)
  refine lv_iconst (v := 0) hx hb dM_isCommon_5 (by decide) ?_
  refine lv_istore (lv' := [(5, .int 0), (4, .int 0), (3, .int 0), (0, .ref o), (1, .long x)]) hx hb dM_isCommon_6 hl (by decide) rfl (fun ls hl => ?_)
  have lp : ∀ (k9 : Nat) (i : Nat), 5 - i < k9 → i ≤ 5 → ∀ ls : Array Slot, lv_has ls 6 [(0, .ref o), (1, .long x), (3, .int (nI (zm_all (zm_c den rch rdl rds off del cam loc nn) i))), (4, .int (nI (zm_tho (zm_c den rch rdl rds off del cam loc nn) (zm_o off del cam loc nn) (zm_d rdl rds off del cam loc nn) x i))), (5, .int (nI i))] → W p l e ({ frames := 5, cells := 0, slots := 0, locals := 116 } : Room) s m ([.ref o, .long x] : List Value).toArray below meth c s.heap [] 0 0 (MQ below (zz_Q (.int (zm_com (zm_c den rch rdl rds off del cam loc nn) (zm_o off del cam loc nn) (zm_d rdl rds off del cam loc nn) x))) ([.ref o, .long x] : List Value).toArray s 0 0 (fun _ => False)) (F0 m 8 ls []) := by
    intro k9
    induction k9 with
    | zero => intro i hk9; exact absurd hk9 (Nat.not_lt_zero _)
    | succ k9 ih_lp =>
      intro i hk9 hi ls hl
      refine lv_iload hx hb dM_isCommon_8 (lv_at hl 4 rfl) ?_
      refine lv_iconst (v := 5) hx hb dM_isCommon_10 (by decide) ?_
      refine zz_ige (tgt := 63) hx hb dM_isCommon_11 (by decide) (fun h1 => ?_) (fun h1 => ?_)
      · have h1n := mt (zz_ltN (a := i) (b := 5) rfl rfl (by omega) (by omega)).mpr h1
        refine lv_iconst (v := 2) hx hb dM_isCommon_63 (by decide) ?_
        refine lv_iload hx hb dM_isCommon_64 (lv_at hl 3 rfl) ?_
        refine lv_imul hx hb dM_isCommon_66 ?_
        refine lv_iload_n hx hb dM_isCommon_67 rfl (lv_at hl 2 rfl) ?_
        refine zz_ile (tgt := 75) hx hb dM_isCommon_68 (by decide) (fun h2 => ?_) (fun h2 => ?_)
        · refine lv_iconst (v := 0) hx hb dM_isCommon_75 (by decide) ?_
          exact zz_bret hx hb hr hlocks dM_isCommon_76 (by decide) (by have e9 : i = 5 := (by omega); subst e9; exact (if_neg h2).symm)
        · refine lv_iconst (v := 1) hx hb dM_isCommon_71 (by decide) ?_
          refine lv_goto (tgt := 76) hx hb dM_isCommon_72 (by decide) ?_
          exact zz_bret hx hb hr hlocks dM_isCommon_76 (by decide) (by have e9 : i = 5 := (by omega); subst e9; exact (if_pos h2).symm)
      · have h1n := (zz_ltN (a := i) (b := 5) rfl rfl (by omega) (by omega)).mp h1
        refine lv_aload_n hx hb dM_isCommon_14 rfl (lv_at hl 0 rfl) ?_
        refine lv_iload hx hb dM_isCommon_15 (lv_at hl 4 rfl) ?_
        refine zz_call (va_runV (Ts := []) (As := [.int (nI i)]) (own := RM) ⟨hx, hb, hml, hown, fun _ h => nomatch h⟩ (ct_M_isCandidate l (k := i) (by omega) (by first | assumption | exact hn _ (by omega))) (zt_cv hT tc_M_isCandidate tv_M_isCandidate tw_799 ⟨Nat.le_of_ble_eq_true rfl, Nat.le_of_ble_eq_true rfl⟩) (zz_preV (q0 := 0) hT hP hK rfl rfl) rfl rfl hl.1 rfl (lv_room (Nat.le_of_ble_eq_true rfl)) dM_isCommon_17 ⟨Nat.zero_le _, Nat.zero_le _⟩) ?_
        refine zz_zeq (tgt := 57) hx hb dM_isCommon_20 (by decide) (fun h3 => ?_) (fun h3 => ?_)
        · refine lv_iinc (k := 4) (v := nI (i + 1)) (lv' := [(5, .int (nI (i + 1))), (0, .ref o), (1, .long x), (3, .int (nI (zm_all (zm_c den rch rdl rds off del cam loc nn) i))), (4, .int (nI (zm_tho (zm_c den rch rdl rds off del cam loc nn) (zm_o off del cam loc nn) (zm_d rdl rds off del cam loc nn) x i)))]) hx hb dM_isCommon_57 hl rfl (nI_succ _).symm (by decide) rfl (fun ls hl => ?_)
          refine lv_goto (tgt := 8) hx hb dM_isCommon_60 (by decide) ?_
          exact ih_lp (i + 1) (by omega) (by omega) _ (by rw [show nI (zm_all (zm_c den rch rdl rds off del cam loc nn) (i + 1)) = nI (zm_all (zm_c den rch rdl rds off del cam loc nn) i) from congrArg nI (if_pos h3)]; rw [show nI (zm_tho (zm_c den rch rdl rds off del cam loc nn) (zm_o off del cam loc nn) (zm_d rdl rds off del cam loc nn) x (i + 1)) = nI (zm_tho (zm_c den rch rdl rds off del cam loc nn) (zm_o off del cam loc nn) (zm_d rdl rds off del cam loc nn) x i) from congrArg nI (if_neg (fun q => q.1 h3))]; exact lv_sub hl [1, 2, 3, 4, 0] rfl)
        · refine lv_iinc (k := 2) (v := nI ((zm_all (zm_c den rch rdl rds off del cam loc nn) i) + 1)) (lv' := [(3, .int (nI ((zm_all (zm_c den rch rdl rds off del cam loc nn) i) + 1))), (0, .ref o), (1, .long x), (4, .int (nI (zm_tho (zm_c den rch rdl rds off del cam loc nn) (zm_o off del cam loc nn) (zm_d rdl rds off del cam loc nn) x i))), (5, .int (nI i))]) hx hb dM_isCommon_23 hl rfl (nI_succ _).symm (by decide) rfl (fun ls hl => ?_)
          refine lv_iload hx hb dM_isCommon_26 (lv_at hl 3 rfl) ?_
          refine lv_lload_n hx hb dM_isCommon_28 rfl (lv_at hl 2 rfl) ?_
          refine lv_aload_n hx hb dM_isCommon_29 rfl (lv_at hl 1 rfl) ?_
          refine lv_iload hx hb dM_isCommon_30 (lv_at hl 4 rfl) ?_
          refine zz_call (va_runV (Ts := []) (As := [.int (nI i)]) (own := RM) ⟨hx, hb, hml, hown, fun _ h => nomatch h⟩ (ct_M_offsetOf l (k := i) (by omega) (by first | assumption | exact hn _ (by omega))) (zt_cv hT tc_M_offsetOf tv_M_offsetOf tw_759 ⟨Nat.le_of_ble_eq_true rfl, Nat.le_of_ble_eq_true rfl⟩) (zz_preV (q0 := 0) hT hP hK rfl rfl) rfl rfl hl.1 rfl (lv_room (Nat.le_of_ble_eq_true rfl)) dM_isCommon_32 ⟨Nat.zero_le _, Nat.zero_le _⟩) ?_
          refine lv_lsub hx hb dM_isCommon_35 ?_
          refine zz_call (va_runS (Ts := []) (As := [.long (x - (zm_o off del cam loc nn i))]) (own := RM) ⟨hx, hb, hml, hown, fun _ h => nomatch h⟩ (ct_M_size l) (zt_cs hT tc_M_size ts_M_size tw_784 ⟨Nat.le_of_ble_eq_true rfl, Nat.le_of_ble_eq_true rfl⟩) (zz_pre0 hT) rfl rfl hl.1 rfl (lv_room (Nat.le_of_ble_eq_true rfl)) dM_isCommon_36 ⟨Nat.zero_le _, Nat.zero_le _⟩) ?_
          refine lv_aload_n hx hb dM_isCommon_39 rfl (lv_at hl 1 rfl) ?_
          refine lv_iload hx hb dM_isCommon_40 (lv_at hl 4 rfl) ?_
          refine zz_call (va_runV (Ts := []) (As := [.int (nI i)]) (own := RM) ⟨hx, hb, hml, hown, fun _ h => nomatch h⟩ (ct_M_distanceOf l (k := i) (by omega) (by first | assumption | exact hn _ (by omega))) (zt_cv hT tc_M_distanceOf tv_M_distanceOf tw_791 ⟨Nat.le_of_ble_eq_true rfl, Nat.le_of_ble_eq_true rfl⟩) (zz_preV (q0 := 0) hT hP hK rfl rfl) rfl rfl hl.1 rfl (lv_room (Nat.le_of_ble_eq_true rfl)) dM_isCommon_42 ⟨Nat.zero_le _, Nat.zero_le _⟩) ?_
          refine zz_lgt (tgt := 53) hx hb dM_isCommon_45 dM_isCommon_46 (by decide) (fun h4 => ?_) (fun h4 => ?_)
          · refine lv_iconst (v := 0) hx hb dM_isCommon_53 (by decide) ?_
            refine lv_iadd hx hb dM_isCommon_54 ?_
            refine lv_istore (lv' := [(4, .int ((nI (zm_tho (zm_c den rch rdl rds off del cam loc nn) (zm_o off del cam loc nn) (zm_d rdl rds off del cam loc nn) x i)) + 0)), (3, .int (nI ((zm_all (zm_c den rch rdl rds off del cam loc nn) i) + 1))), (0, .ref o), (1, .long x), (5, .int (nI i))]) hx hb dM_isCommon_55 hl (by decide) rfl (fun ls hl => ?_)
            refine lv_iinc (k := 4) (v := nI (i + 1)) (lv' := [(5, .int (nI (i + 1))), (4, .int ((nI (zm_tho (zm_c den rch rdl rds off del cam loc nn) (zm_o off del cam loc nn) (zm_d rdl rds off del cam loc nn) x i)) + 0)), (3, .int (nI ((zm_all (zm_c den rch rdl rds off del cam loc nn) i) + 1))), (0, .ref o), (1, .long x)]) hx hb dM_isCommon_57 hl rfl (nI_succ _).symm (by decide) rfl (fun ls hl => ?_)
            refine lv_goto (tgt := 8) hx hb dM_isCommon_60 (by decide) ?_
            exact ih_lp (i + 1) (by omega) (by omega) _ (by rw [show nI (zm_all (zm_c den rch rdl rds off del cam loc nn) (i + 1)) = nI ((zm_all (zm_c den rch rdl rds off del cam loc nn) i) + 1) from congrArg nI (if_neg h3)]; rw [show nI (zm_tho (zm_c den rch rdl rds off del cam loc nn) (zm_o off del cam loc nn) (zm_d rdl rds off del cam loc nn) x (i + 1)) = (nI (zm_tho (zm_c den rch rdl rds off del cam loc nn) (zm_o off del cam loc nn) (zm_d rdl rds off del cam loc nn) x i)) + 0 from (congrArg nI (if_neg (fun q => q.2 h4))).trans (Int32.add_zero _).symm]; exact lv_sub hl [3, 4, 2, 1, 0] rfl)
          · refine lv_iconst (v := 1) hx hb dM_isCommon_49 (by decide) ?_
            refine lv_goto (tgt := 54) hx hb dM_isCommon_50 (by decide) ?_
            refine lv_iadd hx hb dM_isCommon_54 ?_
            refine lv_istore (lv' := [(4, .int ((nI (zm_tho (zm_c den rch rdl rds off del cam loc nn) (zm_o off del cam loc nn) (zm_d rdl rds off del cam loc nn) x i)) + 1)), (3, .int (nI ((zm_all (zm_c den rch rdl rds off del cam loc nn) i) + 1))), (0, .ref o), (1, .long x), (5, .int (nI i))]) hx hb dM_isCommon_55 hl (by decide) rfl (fun ls hl => ?_)
            refine lv_iinc (k := 4) (v := nI (i + 1)) (lv' := [(5, .int (nI (i + 1))), (4, .int ((nI (zm_tho (zm_c den rch rdl rds off del cam loc nn) (zm_o off del cam loc nn) (zm_d rdl rds off del cam loc nn) x i)) + 1)), (3, .int (nI ((zm_all (zm_c den rch rdl rds off del cam loc nn) i) + 1))), (0, .ref o), (1, .long x)]) hx hb dM_isCommon_57 hl rfl (nI_succ _).symm (by decide) rfl (fun ls hl => ?_)
            refine lv_goto (tgt := 8) hx hb dM_isCommon_60 (by decide) ?_
            exact ih_lp (i + 1) (by omega) (by omega) _ (by rw [show nI (zm_all (zm_c den rch rdl rds off del cam loc nn) (i + 1)) = nI ((zm_all (zm_c den rch rdl rds off del cam loc nn) i) + 1) from congrArg nI (if_neg h3)]; rw [show nI (zm_tho (zm_c den rch rdl rds off del cam loc nn) (zm_o off del cam loc nn) (zm_d rdl rds off del cam loc nn) x (i + 1)) = (nI (zm_tho (zm_c den rch rdl rds off del cam loc nn) (zm_o off del cam loc nn) (zm_d rdl rds off del cam loc nn) x i)) + 1 from (congrArg nI (if_pos ⟨h3, h4⟩)).trans (nI_succ _)]; exact lv_sub hl [3, 4, 2, 1, 0] rfl)
  exact lp (5 - 0 + 1) 0 (by omega) (Nat.zero_le _) _ (by rw [show nI (zm_all (zm_c den rch rdl rds off del cam loc nn) 0) = 0 from rfl]; rw [show nI (zm_tho (zm_c den rch rdl rds off del cam loc nn) (zm_o off del cam loc nn) (zm_d rdl rds off del cam loc nn) x 0) = 0 from rfl]; rw [show nI 0 = 0 from rfl]; exact lv_sub hl [3, 4, 2, 1, 0] rfl)
set_option maxHeartbeats 4000000 in
set_option maxRecDepth 100000 in
theorem ct_M_spread (l : Launch) {dC : Nat → ClassId} {dI : Nat → Nat → Nat} {cJ cI cB cZ cS : ClassId} {o : Nat} {ad : Nat → Nat} {thr wst : Int32} {loc slw low high : Int64} {pk den rch pol ask str ins : Nat → Int32} {xp rdl rds off del cam : Nat → Int64} {nn : Nat → Nat} {k : Nat} (hk : k < 5) (hn : ∀ k, k < 5 → nn k ≤ 8) : Met l yM_spread [Cond.code yM_spread cM_spread 5 (some .long)] { frames := 3, cells := 0, slots := 0, locals := 66 } (va_Pc [.ref o, .int (nI k)] (zz_B (dC, dI) vcl (zz_T cJ cI cB cZ cS) (zm_W o ad cI cJ cZ thr loc slw wst pk den rch pol ask xp str rdl rds nn off del cam ins low high))) (zz_Q (.long (zm_spr ins (zm_o off del cam loc nn) k 5))) 0 0 (fun _ => False) := by
  refine Met.ofW (cc := cM_spread) (maxL := 5) (ret := (some .long)) (by decide) rfl ?_
  intro p e s m args below meth c s₁ B hml hv
  obtain ⟨rfl, hT, hP, hK⟩ := hv
  have hx := B.exec
  have hb := B.bytes
  have hr := B.returns
  have hlocks := B.notSynchronized
  have hown : s.vm.findClass RM = some m.cls := findClass_of_methodNamed B.named
  have hl := lv_entry ([.ref o, .int (nI k)]) (n := 5) (Nat.le_of_ble_eq_true rfl)
  rw [lg_entry_eq]
  generalize (lg_sl ([.ref o, .int (nI k)]) ++ List.replicate (5 - (lg_sl ([.ref o, .int (nI k)])).length) Slot.unset).toArray = ls at hl ⊢
  have hl : lv_has ls 5 [(0, .ref o), (1, .int (nI k))] := hl
  refine lv_lconst (v := 0) hx hb dM_spread_0 (by decide) ?_
  refine lv_lstore_n (lv' := [(2, .long 0), (0, .ref o), (1, .int (nI k))]) hx hb dM_spread_1 rfl hl (by decide) rfl (fun ls hl => ?_)
  refine lv_iconst (v := 0) hx hb dM_spread_2 (by decide) ?_
  refine lv_istore (lv' := [(4, .int 0), (2, .long 0), (0, .ref o), (1, .int (nI k))]) hx hb dM_spread_3 hl (by decide) rfl (fun ls hl => ?_)
  have lp : ∀ (k9 : Nat) (i : Nat), 5 - i < k9 → i ≤ 5 → ∀ ls : Array Slot, lv_has ls 5 [(0, .ref o), (1, .int (nI k)), (2, .long (zm_spr ins (zm_o off del cam loc nn) k i)), (4, .int (nI i))] → W p l e ({ frames := 3, cells := 0, slots := 0, locals := 66 } : Room) s m ([.ref o, .int (nI k)] : List Value).toArray below meth c s.heap [] 0 0 (MQ below (zz_Q (.long (zm_spr ins (zm_o off del cam loc nn) k 5))) ([.ref o, .int (nI k)] : List Value).toArray s 0 0 (fun _ => False)) (F0 m 5 ls []) := by
    intro k9
    induction k9 with
    | zero => intro i hk9; exact absurd hk9 (Nat.not_lt_zero _)
    | succ k9 ih_lp =>
      intro i hk9 hi ls hl
      refine lv_iload hx hb dM_spread_5 (lv_at hl 3 rfl) ?_
      refine lv_iconst (v := 5) hx hb dM_spread_7 (by decide) ?_
      refine zz_ige (tgt := 49) hx hb dM_spread_8 (by decide) (fun h1 => ?_) (fun h1 => ?_)
      · have h1n := mt (zz_ltN (a := i) (b := 5) rfl rfl (by omega) (by omega)).mpr h1
        refine lv_lload_n hx hb dM_spread_49 rfl (lv_at hl 2 rfl) ?_
        exact zz_lret hx hb hr hlocks dM_spread_50 (by rw [show i = 5 from by omega])
      · have h1n := (zz_ltN (a := i) (b := 5) rfl rfl (by omega) (by omega)).mp h1
        refine lv_lload_n hx hb dM_spread_11 rfl (lv_at hl 2 rfl) ?_
        refine lv_aload_n hx hb dM_spread_12 rfl (lv_at hl 0 rfl) ?_
        refine zz_getM hx hb hT hown hK hP 0 rfl 17 (by decide) tw_634 rfl dM_spread_13 ?_
        refine lv_iload hx hb dM_spread_16 (lv_at hl 3 rfl) ?_
        refine zz_zald hx hb hK hP 14 3 rfl rfl i rfl (by first | omega | decide | assumption) (by decide) dM_spread_18 ?_
        refine zz_zeq (tgt := 40) hx hb dM_spread_19 (by decide) (fun h2 => ?_) (fun h2 => ?_)
        · refine lv_lconst (v := 0) hx hb dM_spread_40 (by decide) ?_
          refine lv_ladd hx hb dM_spread_41 ?_
          refine lv_lstore_n (lv' := [(2, .long ((zm_spr ins (zm_o off del cam loc nn) k i) + 0)), (0, .ref o), (1, .int (nI k)), (4, .int (nI i))]) hx hb dM_spread_42 rfl hl (by decide) rfl (fun ls hl => ?_)
          refine lv_iinc (k := 3) (v := nI (i + 1)) (lv' := [(4, .int (nI (i + 1))), (2, .long ((zm_spr ins (zm_o off del cam loc nn) k i) + 0)), (0, .ref o), (1, .int (nI k))]) hx hb dM_spread_43 hl rfl (nI_succ _).symm (by decide) rfl (fun ls hl => ?_)
          refine lv_goto (tgt := 5) hx hb dM_spread_46 (by decide) ?_
          exact ih_lp (i + 1) (by omega) (by omega) _ (by rw [show zm_spr ins (zm_o off del cam loc nn) k (i + 1) = (zm_spr ins (zm_o off del cam loc nn) k i) + 0 from if_pos h2]; exact lv_sub hl [2, 3, 1, 0] rfl)
        · refine lv_aload_n hx hb dM_spread_22 rfl (lv_at hl 0 rfl) ?_
          refine lv_iload_n hx hb dM_spread_23 rfl (lv_at hl 1 rfl) ?_
          refine zz_call (va_runV (Ts := []) (As := [.int (nI k)]) (own := RM) ⟨hx, hb, hml, hown, fun _ h => nomatch h⟩ (ct_M_offsetOf l (k := k) (by omega) (by first | assumption | exact hn _ (by omega))) (zt_cv hT tc_M_offsetOf tv_M_offsetOf tw_759 ⟨Nat.le_of_ble_eq_true rfl, Nat.le_of_ble_eq_true rfl⟩) (zz_preV (q0 := 0) hT hP hK rfl rfl) rfl rfl hl.1 rfl (lv_room (Nat.le_of_ble_eq_true rfl)) dM_spread_24 ⟨Nat.zero_le _, Nat.zero_le _⟩) ?_
          refine lv_aload_n hx hb dM_spread_27 rfl (lv_at hl 0 rfl) ?_
          refine lv_iload hx hb dM_spread_28 (lv_at hl 3 rfl) ?_
          refine zz_call (va_runV (Ts := []) (As := [.int (nI i)]) (own := RM) ⟨hx, hb, hml, hown, fun _ h => nomatch h⟩ (ct_M_offsetOf l (k := i) (by omega) (by first | assumption | exact hn _ (by omega))) (zt_cv hT tc_M_offsetOf tv_M_offsetOf tw_759 ⟨Nat.le_of_ble_eq_true rfl, Nat.le_of_ble_eq_true rfl⟩) (zz_preV (q0 := 0) hT hP hK rfl rfl) rfl rfl hl.1 rfl (lv_room (Nat.le_of_ble_eq_true rfl)) dM_spread_30 ⟨Nat.zero_le _, Nat.zero_le _⟩) ?_
          refine lv_lsub hx hb dM_spread_33 ?_
          refine zz_call (va_runS (Ts := []) (As := [.long ((zm_o off del cam loc nn k) - (zm_o off del cam loc nn i))]) (own := RM) ⟨hx, hb, hml, hown, fun _ h => nomatch h⟩ (ct_M_size l) (zt_cs hT tc_M_size ts_M_size tw_784 ⟨Nat.le_of_ble_eq_true rfl, Nat.le_of_ble_eq_true rfl⟩) (zz_pre0 hT) rfl rfl hl.1 rfl (lv_room (Nat.le_of_ble_eq_true rfl)) dM_spread_34 ⟨Nat.zero_le _, Nat.zero_le _⟩) ?_
          refine lv_goto (tgt := 41) hx hb dM_spread_37 (by decide) ?_
          refine lv_ladd hx hb dM_spread_41 ?_
          refine lv_lstore_n (lv' := [(2, .long ((zm_spr ins (zm_o off del cam loc nn) k i) + (zn_abs ((zm_o off del cam loc nn k) - (zm_o off del cam loc nn i))))), (0, .ref o), (1, .int (nI k)), (4, .int (nI i))]) hx hb dM_spread_42 rfl hl (by decide) rfl (fun ls hl => ?_)
          refine lv_iinc (k := 3) (v := nI (i + 1)) (lv' := [(4, .int (nI (i + 1))), (2, .long ((zm_spr ins (zm_o off del cam loc nn) k i) + (zn_abs ((zm_o off del cam loc nn k) - (zm_o off del cam loc nn i))))), (0, .ref o), (1, .int (nI k))]) hx hb dM_spread_43 hl rfl (nI_succ _).symm (by decide) rfl (fun ls hl => ?_)
          refine lv_goto (tgt := 5) hx hb dM_spread_46 (by decide) ?_
          exact ih_lp (i + 1) (by omega) (by omega) _ (by rw [show zm_spr ins (zm_o off del cam loc nn) k (i + 1) = (zm_spr ins (zm_o off del cam loc nn) k i) + (zn_abs ((zm_o off del cam loc nn k) - (zm_o off del cam loc nn i))) from if_neg h2]; exact lv_sub hl [2, 3, 1, 0] rfl)
  exact lp (5 - 0 + 1) 0 (by omega) (Nat.zero_le _) _ (by rw [show zm_spr ins (zm_o off del cam loc nn) k 0 = 0 from rfl]; rw [show nI 0 = 0 from rfl]; exact lv_sub hl [2, 3, 1, 0] rfl)
set_option maxHeartbeats 4000000 in
set_option maxRecDepth 100000 in
theorem ct_M_combined (l : Launch) {dC : Nat → ClassId} {dI : Nat → Nat → Nat} {cJ cI cB cZ cS : ClassId} {o : Nat} {ad : Nat → Nat} {thr wst : Int32} {loc slw low high : Int64} {pk den rch pol ask str ins : Nat → Int32} {xp rdl rds off del cam : Nat → Int64} {nn : Nat → Nat} {w : Int32} (hw : ¬ Int32.toInt64 w = 0) (hn : ∀ k, k < 5 → nn k ≤ 8) : Met l yM_combined [Cond.code yM_combined cM_combined 6 (some .long)] { frames := 3, cells := 0, slots := 0, locals := 66 } (va_Pc [.ref o, .int w] (zz_B (dC, dI) vcl (zz_T cJ cI cB cZ cS) (zm_W o ad cI cJ cZ thr loc slw wst pk den rch pol ask xp str rdl rds nn off del cam ins low high))) (zz_Q (.long (zm_cmb ins (zm_o off del cam loc nn) w))) 0 0 (fun _ => False) := by
  refine Met.ofW (cc := cM_combined) (maxL := 6) (ret := (some .long)) (by decide) rfl ?_
  intro p e s m args below meth c s₁ B hml hv
  obtain ⟨rfl, hT, hP, hK⟩ := hv
  have hx := B.exec
  have hb := B.bytes
  have hr := B.returns
  have hlocks := B.notSynchronized
  have hown : s.vm.findClass RM = some m.cls := findClass_of_methodNamed B.named
  have hl := lv_entry ([.ref o, .int w]) (n := 6) (Nat.le_of_ble_eq_true rfl)
  rw [lg_entry_eq]
  generalize (lg_sl ([.ref o, .int w]) ++ List.replicate (6 - (lg_sl ([.ref o, .int w])).length) Slot.unset).toArray = ls at hl ⊢
  have hl : lv_has ls 6 [(0, .ref o), (1, .int w)] := hl
  refine lv_lconst (v := 0) hx hb dM_combined_0 (by decide) ?_
  refine lv_lstore_n (lv' := [(2, .long 0), (0, .ref o), (1, .int w)]) hx hb dM_combined_1 rfl hl (by decide) rfl (fun ls hl => ?_)
  refine lv_iconst (v := 0) hx hb dM_combined_2 (by decide) ?_
  refine lv_istore (lv' := [(4, .int 0), (2, .long 0), (0, .ref o), (1, .int w)]) hx hb dM_combined_3 hl (by decide) rfl (fun ls hl => ?_)
  have lp : ∀ (k9 : Nat) (i : Nat), 5 - i < k9 → i ≤ 5 → ∀ ls : Array Slot, lv_has ls 6 [(0, .ref o), (1, .int w), (2, .long (zm_sum ins (zm_o off del cam loc nn) i)), (4, .int (nI i))] → W p l e ({ frames := 3, cells := 0, slots := 0, locals := 66 } : Room) s m ([.ref o, .int w] : List Value).toArray below meth c s.heap [] 0 0 (MQ below (zz_Q (.long (zm_cmb ins (zm_o off del cam loc nn) w))) ([.ref o, .int w] : List Value).toArray s 0 0 (fun _ => False)) (F0 m 5 ls []) := by
    intro k9
    induction k9 with
    | zero => intro i hk9; exact absurd hk9 (Nat.not_lt_zero _)
    | succ k9 ih_lp =>
      intro i hk9 hi ls hl
      refine lv_iload hx hb dM_combined_5 (lv_at hl 3 rfl) ?_
      refine lv_iconst (v := 5) hx hb dM_combined_7 (by decide) ?_
      refine zz_ige (tgt := 40) hx hb dM_combined_8 (by decide) (fun h1 => ?_) (fun h1 => ?_)
      · have h1n := mt (zz_ltN (a := i) (b := 5) rfl rfl (by omega) (by omega)).mpr h1
        refine lv_lload_n hx hb dM_combined_40 rfl (lv_at hl 2 rfl) ?_
        refine lv_iload_n hx hb dM_combined_41 rfl (lv_at hl 1 rfl) ?_
        refine lv_i2l (v := Int32.toInt64 w) hx hb dM_combined_42 rfl ?_
        refine lv_ldiv hx hb dM_combined_43 hw ?_
        refine lv_lstore (lv' := [(4, .long ((zm_sum ins (zm_o off del cam loc nn) i) / (Int32.toInt64 w))), (0, .ref o), (1, .int w), (2, .long (zm_sum ins (zm_o off del cam loc nn) i))]) hx hb dM_combined_44 hl (by decide) rfl (fun ls hl => ?_)
        refine lv_lload hx hb dM_combined_46 (lv_at hl 0 rfl) ?_
        refine lv_iload_n hx hb dM_combined_48 rfl (lv_at hl 2 rfl) ?_
        refine lv_i2l (v := Int32.toInt64 w) hx hb dM_combined_49 rfl ?_
        refine lv_lmul hx hb dM_combined_50 ?_
        refine lv_lload_n hx hb dM_combined_51 rfl (lv_at hl 3 rfl) ?_
        refine zz_lle (tgt := 63) hx hb dM_combined_52 dM_combined_53 (by decide) (fun h2 => ?_) (fun h2 => ?_)
        · refine lv_lload hx hb dM_combined_63 (lv_at hl 0 rfl) ?_
          exact zz_lret hx hb hr hlocks dM_combined_65 (by have e9 : i = 5 := (by omega); subst e9; exact (if_neg h2).symm)
        · refine lv_lload hx hb dM_combined_56 (lv_at hl 0 rfl) ?_
          refine lv_lconst (v := 1) hx hb dM_combined_58 (by decide) ?_
          refine lv_lsub hx hb dM_combined_59 ?_
          refine lv_goto (tgt := 65) hx hb dM_combined_60 (by decide) ?_
          exact zz_lret hx hb hr hlocks dM_combined_65 (by have e9 : i = 5 := (by omega); subst e9; exact (if_pos h2).symm)
      · have h1n := (zz_ltN (a := i) (b := 5) rfl rfl (by omega) (by omega)).mp h1
        refine lv_lload_n hx hb dM_combined_11 rfl (lv_at hl 2 rfl) ?_
        refine lv_aload_n hx hb dM_combined_12 rfl (lv_at hl 0 rfl) ?_
        refine zz_getM hx hb hT hown hK hP 0 rfl 17 (by decide) tw_634 rfl dM_combined_13 ?_
        refine lv_iload hx hb dM_combined_16 (lv_at hl 3 rfl) ?_
        refine zz_zald hx hb hK hP 14 3 rfl rfl i rfl (by first | omega | decide | assumption) (by decide) dM_combined_18 ?_
        refine zz_zeq (tgt := 31) hx hb dM_combined_19 (by decide) (fun h3 => ?_) (fun h3 => ?_)
        · refine lv_lconst (v := 0) hx hb dM_combined_31 (by decide) ?_
          refine lv_ladd hx hb dM_combined_32 ?_
          refine lv_lstore_n (lv' := [(2, .long ((zm_sum ins (zm_o off del cam loc nn) i) + 0)), (0, .ref o), (1, .int w), (4, .int (nI i))]) hx hb dM_combined_33 rfl hl (by decide) rfl (fun ls hl => ?_)
          refine lv_iinc (k := 3) (v := nI (i + 1)) (lv' := [(4, .int (nI (i + 1))), (2, .long ((zm_sum ins (zm_o off del cam loc nn) i) + 0)), (0, .ref o), (1, .int w)]) hx hb dM_combined_34 hl rfl (nI_succ _).symm (by decide) rfl (fun ls hl => ?_)
          refine lv_goto (tgt := 5) hx hb dM_combined_37 (by decide) ?_
          exact ih_lp (i + 1) (by omega) (by omega) _ (by rw [show zm_sum ins (zm_o off del cam loc nn) (i + 1) = (zm_sum ins (zm_o off del cam loc nn) i) + 0 from if_pos h3]; exact lv_sub hl [2, 3, 1, 0] rfl)
        · refine lv_aload_n hx hb dM_combined_22 rfl (lv_at hl 0 rfl) ?_
          refine lv_iload hx hb dM_combined_23 (lv_at hl 3 rfl) ?_
          refine zz_call (va_runV (Ts := []) (As := [.int (nI i)]) (own := RM) ⟨hx, hb, hml, hown, fun _ h => nomatch h⟩ (ct_M_offsetOf l (k := i) (by omega) (by first | assumption | exact hn _ (by omega))) (zt_cv hT tc_M_offsetOf tv_M_offsetOf tw_759 ⟨Nat.le_of_ble_eq_true rfl, Nat.le_of_ble_eq_true rfl⟩) (zz_preV (q0 := 0) hT hP hK rfl rfl) rfl rfl hl.1 rfl (lv_room (Nat.le_of_ble_eq_true rfl)) dM_combined_25 ⟨Nat.zero_le _, Nat.zero_le _⟩) ?_
          refine lv_goto (tgt := 32) hx hb dM_combined_28 (by decide) ?_
          refine lv_ladd hx hb dM_combined_32 ?_
          refine lv_lstore_n (lv' := [(2, .long ((zm_sum ins (zm_o off del cam loc nn) i) + (zm_o off del cam loc nn i))), (0, .ref o), (1, .int w), (4, .int (nI i))]) hx hb dM_combined_33 rfl hl (by decide) rfl (fun ls hl => ?_)
          refine lv_iinc (k := 3) (v := nI (i + 1)) (lv' := [(4, .int (nI (i + 1))), (2, .long ((zm_sum ins (zm_o off del cam loc nn) i) + (zm_o off del cam loc nn i))), (0, .ref o), (1, .int w)]) hx hb dM_combined_34 hl rfl (nI_succ _).symm (by decide) rfl (fun ls hl => ?_)
          refine lv_goto (tgt := 5) hx hb dM_combined_37 (by decide) ?_
          exact ih_lp (i + 1) (by omega) (by omega) _ (by rw [show zm_sum ins (zm_o off del cam loc nn) (i + 1) = (zm_sum ins (zm_o off del cam loc nn) i) + (zm_o off del cam loc nn i) from if_neg h3]; exact lv_sub hl [2, 3, 1, 0] rfl)
  exact lp (5 - 0 + 1) 0 (by omega) (Nat.zero_le _) _ (by rw [show zm_sum ins (zm_o off del cam loc nn) 0 = 0 from rfl]; rw [show nI 0 = 0 from rfl]; exact lv_sub hl [2, 3, 1, 0] rfl)
end
section
/-! The peer: definitions; the five servers' cells -/
abbrev zw_k (cJ : ClassId) (so sa sb sd : Nat → Nat) (den rch pol exg : Nat → Int32) (xp : Nat → Int64) (nn : Nat → Nat) (str : Nat → Int32) (rdl rds : Nat → Int64) (off del arr : Nat → Nat → Int64) (j : Nat) : va_W :=
  zs_W (so j) (sa j) (sb j) (sd j) cJ (den j) (rch j) (pol j) (exg j) (xp j) (nI (nn j)) (str j) (rdl j) (rds j) (off j) (del j) (arr j)
abbrev zw_A (sv : Nat) (cS cJ : ClassId) (so sa sb sd : Nat → Nat) (den rch pol exg : Nat → Int32) (xp : Nat → Int64) (nn : Nat → Nat) (str : Nat → Int32) (rdl rds : Nat → Int64) (off del arr : Nat → Nat → Int64) : va_W :=
  (sv, .inl (cS, 5, .inr (.inr (.inr (.inr (fun k => some (so k))))))) :: (zw_k cJ so sa sb sd den rch pol exg xp nn str rdl rds off del arr 0 ++ (zw_k cJ so sa sb sd den rch pol exg xp nn str rdl rds off del arr 1 ++ (zw_k cJ so sa sb sd den rch pol exg xp nn str rdl rds off del arr 2 ++ (zw_k cJ so sa sb sd den rch pol exg xp nn str rdl rds off del arr 3 ++ zw_k cJ so sa sb sd den rch pol exg xp nn str rdl rds off del arr 4))))
theorem zw_get {D : va_G} {cl : List vw_C} {H : Heap} {cS cJ : ClassId} {sv : Nat} {so sa sb sd : Nat → Nat} {den rch pol exg str : Nat → Int32} {xp rdl rds : Nat → Int64} {nn : Nat → Nat} {off del arr : Nat → Nat → Int64} (hP : va_P D cl (zw_A sv cS cJ so sa sb sd den rch pol exg xp nn str rdl rds off del arr) H) {k : Nat} (hk : k < 5) : va_P D cl (zw_k cJ so sa sb sd den rch pol exg xp nn str rdl rds off del arr k) H := by
  refine zz_Pmem hP (fun q hq => List.mem_cons_of_mem _ ?_)
  rcases (show k = 0 ∨ k = 1 ∨ k = 2 ∨ k = 3 ∨ k = 4 by omega) with h | h | h | h | h <;> subst h
  · exact List.mem_append_left _ hq
  · exact List.mem_append_right _ (List.mem_append_left _ hq)
  · exact List.mem_append_right _ (List.mem_append_right _ (List.mem_append_left _ hq))
  · exact List.mem_append_right _ (List.mem_append_right _ (List.mem_append_right _ (List.mem_append_left _ hq)))
  · exact List.mem_append_right _ (List.mem_append_right _ (List.mem_append_right _ (List.mem_append_right _ hq)))
def zv_o : Option Nat → Int32
  | none => -1
  | some b => nI b
def zv_btr (str : Nat → Int32) (vd : Nat → Int64) (x y : Nat) : Int32 := if str x < str y ∨ (str x = str y ∧ vd x < vd y) then 1 else 0
def zv_cp (surv : Int32) (str : Nat → Int32) (vd : Nat → Int64) : Nat → Option Nat
  | 0 => none
  | i + 1 => if zv_has surv (nI i) = 0 then zv_cp surv str vd i else match zv_cp surv str vd i with
    | none => some i
    | some b => if zv_btr str vd i b = 0 then some b else some i
theorem zv_cp_n {surv : Int32} {str : Nat → Int32} {vd : Nat → Int64} {i : Nat} (h : ¬ zv_has surv (nI i) = 0) (hbo : zv_cp surv str vd i = none) : zv_cp surv str vd (i + 1) = some i := by
  simp only [zv_cp]
  rw [if_neg h, hbo]
theorem zv_cp_s {surv : Int32} {str : Nat → Int32} {vd : Nat → Int64} {i b : Nat} (h : ¬ zv_has surv (nI i) = 0) (hbo : zv_cp surv str vd i = some b) (hb : zv_btr str vd i b = 0) : zv_cp surv str vd (i + 1) = some b := by
  simp only [zv_cp]
  rw [if_neg h, hbo]
  exact if_pos hb
theorem zv_cp_t {surv : Int32} {str : Nat → Int32} {vd : Nat → Int64} {i b : Nat} (h : ¬ zv_has surv (nI i) = 0) (hbo : zv_cp surv str vd i = some b) (hb : ¬ zv_btr str vd i b = 0) : zv_cp surv str vd (i + 1) = some i := by
  simp only [zv_cp]
  rw [if_neg h, hbo]
  exact if_neg hb
theorem zv_cp_lt {surv : Int32} {str : Nat → Int32} {vd : Nat → Int64} : ∀ {i b : Nat}, zv_cp surv str vd i = some b → b < i := by
  intro i
  induction i with
  | zero => intro b h; cases h
  | succ i ih =>
    intro b h
    by_cases hh : zv_has surv (nI i) = 0
    · simp only [zv_cp] at h
      rw [if_pos hh] at h
      have := ih h
      omega
    · cases hc : zv_cp surv str vd i with
      | none =>
        rw [zv_cp_n hh hc] at h
        cases h
        omega
      | some d =>
        have hd := ih hc
        by_cases hb : zv_btr str vd i d = 0
        · rw [zv_cp_s hh hc hb] at h
          cases h
          omega
        · rw [zv_cp_t hh hc hb] at h
          cases h
          omega
def zm_dn : Nat → Int32
  | 0 => -1
  | j + 1 => nI j
theorem zm_dn_m (j : Nat) : zm_dn j = (nI j) + (-1) := by
  cases j with
  | zero => decide
  | succ j => exact (pk_m1 j).symm
/-- one step of the model's search: server k, after the choice so far -/
def zm_stp (ins str : Nat → Int32) (df : Nat → Int64) (k : Nat) (c : Option Nat) : Option Nat := if ins k = 0 then c else match c with
  | none => some k
  | some b => if str k < str b ∨ (str k = str b ∧ ¬ df b < df k) then some k else some b
def zm_pe (ins str : Nat → Int32) (df : Nat → Int64) : Nat → Option Nat
  | 0 => none
  | r + 1 => zm_stp ins str df (4 - r) (zm_pe ins str df r)
theorem zm_pe_step {ins str : Nat → Int32} {df : Nat → Int64} {j r : Nat} (h : j + 1 + r = 5) : zm_pe ins str df (r + 1) = zm_stp ins str df j (zm_pe ins str df r) := by
  have e : 4 - r = j := by omega
  simp only [zm_pe]
  rw [e]
theorem zm_st0 {ins str : Nat → Int32} {df : Nat → Int64} {k : Nat} {c : Option Nat} (h : ins k = 0) (hc : c = none) : zm_stp ins str df k c = none := by
  subst hc
  exact if_pos h
theorem zm_st1 {ins str : Nat → Int32} {df : Nat → Int64} {k b : Nat} {c : Option Nat} (h : ins k = 0) (hc : c = some b) : zm_stp ins str df k c = some b := by
  subst hc
  exact if_pos h
theorem zm_st2 {ins str : Nat → Int32} {df : Nat → Int64} {k b : Nat} {c : Option Nat} (h : ¬ ins k = 0) (hc : c = some b) (hn : ¬ (str k < str b ∨ (str k = str b ∧ ¬ df b < df k))) : zm_stp ins str df k c = some b := by
  subst hc
  unfold zm_stp
  rw [if_neg h]
  exact if_neg hn
theorem zm_st3 {ins str : Nat → Int32} {df : Nat → Int64} {k : Nat} {c : Option Nat} (h : ¬ ins k = 0) (hc : c = none) : zm_stp ins str df k c = some k := by
  subst hc
  exact if_neg h
theorem zm_st4 {ins str : Nat → Int32} {df : Nat → Int64} {k b : Nat} {c : Option Nat} (h : ¬ ins k = 0) (hc : c = some b) (hn : str k < str b ∨ (str k = str b ∧ ¬ df b < df k)) : zm_stp ins str df k c = some k := by
  subst hc
  unfold zm_stp
  rw [if_neg h]
  exact if_pos hn
theorem zm_pe_lt {ins str : Nat → Int32} {df : Nat → Int64} : ∀ {r b : Nat}, zm_pe ins str df r = some b → b < 5 := by
  intro r
  induction r with
  | zero => intro b h; cases h
  | succ r ih =>
    intro b h
    simp only [zm_pe] at h
    by_cases hi : ins (4 - r) = 0
    · cases hc : zm_pe ins str df r with
      | none => rw [zm_st0 hi hc] at h; cases h
      | some d => rw [zm_st1 hi hc] at h; cases h; exact ih hc
    · cases hc : zm_pe ins str df r with
      | none => rw [zm_st3 hi hc] at h; cases h; omega
      | some d =>
        by_cases hn : str (4 - r) < str d ∨ (str (4 - r) = str d ∧ ¬ df d < df (4 - r))
        · rw [zm_st4 hi hc hn] at h; cases h; omega
        · rw [zm_st2 hi hc hn] at h; cases h; exact ih hc
end
section
/-! The peer, as the class chooses it -/
set_option maxHeartbeats 4000000 in
set_option maxRecDepth 100000 in
theorem ct_V_isBetter (l : Launch) {dC : Nat → ClassId} {dI : Nat → Nat → Nat} {cJ cI cB cZ cS : ClassId} {v a b : Nat} {cand surv : Int32} {low high : Int64} {vo vd : Nat → Int64} {sv : Nat} {so sa sb sd : Nat → Nat} {den rch pol exg str : Nat → Int32} {xp rdl rds : Nat → Int64} {nn : Nat → Nat} {off del arr : Nat → Nat → Int64} {x y : Nat} (hx5 : x < 5) (hy5 : y < 5) : Met l yV_isBetter [Cond.code yV_isBetter cV_isBetter 6 (some .boolean)] { frames := 0, cells := 0, slots := 0, locals := 0 } (va_Pc [.ref v, .ref sv, .int (nI x), .int (nI y)] (zz_B (dC, dI) vcl (zz_T cJ cI cB cZ cS) (zv_W v a b cJ cand low high surv vo vd ++ zw_A sv cS cJ so sa sb sd den rch pol exg xp nn str rdl rds off del arr))) (zz_Q (.int (zv_btr str vd x y))) 0 0 (fun _ => False) := by
  refine Met.ofW (cc := cV_isBetter) (maxL := 6) (ret := (some .boolean)) (by decide) rfl ?_
  intro p e s m args below meth c s₁ B hml hv
  obtain ⟨rfl, hT, hP, hK⟩ := hv
  have hx := B.exec
  have hb := B.bytes
  have hr := B.returns
  have hlocks := B.notSynchronized
  have hown : s.vm.findClass RV = some m.cls := findClass_of_methodNamed B.named
  have hl := lv_entry ([.ref v, .ref sv, .int (nI x), .int (nI y)]) (n := 6) (Nat.le_of_ble_eq_true rfl)
  rw [lg_entry_eq]
  generalize (lg_sl ([.ref v, .ref sv, .int (nI x), .int (nI y)]) ++ List.replicate (6 - (lg_sl ([.ref v, .ref sv, .int (nI x), .int (nI y)])).length) Slot.unset).toArray = ls at hl ⊢
  have hl : lv_has ls 6 [(0, .ref v), (1, .ref sv), (2, .int (nI x)), (3, .int (nI y))] := hl
  have hPA : va_P (dC, dI) vcl (zw_A sv cS cJ so sa sb sd den rch pol exg xp nn str rdl rds off del arr) s.heap := zz_Pmem hP (fun q h => List.mem_append_right _ h)
  refine lv_aload_n hx hb dV_isBetter_0 rfl (lv_at hl 1 rfl) ?_
  refine lv_iload_n hx hb dV_isBetter_1 rfl (lv_at hl 2 rfl) ?_
  refine zz_aald hx hb hK hP 3 4 rfl rfl x rfl (by first | omega | decide | assumption) (by decide) rfl dV_isBetter_2 ?_
  have hPs1 := zw_get hPA (k := x) (by omega)
  refine zz_getS hx hb hT hown hK hPs1 0 rfl 6 (by decide) tw_58 rfl dV_isBetter_3 ?_
  refine lv_istore (lv' := [(4, .int (str x)), (0, .ref v), (1, .ref sv), (2, .int (nI x)), (3, .int (nI y))]) hx hb dV_isBetter_6 hl (by decide) rfl (fun ls hl => ?_)
  refine lv_aload_n hx hb dV_isBetter_8 rfl (lv_at hl 2 rfl) ?_
  refine lv_iload_n hx hb dV_isBetter_9 rfl (lv_at hl 4 rfl) ?_
  refine zz_aald hx hb hK hP 3 4 rfl rfl y rfl (by first | omega | decide | assumption) (by decide) rfl dV_isBetter_10 ?_
  have hPs2 := zw_get hPA (k := y) (by omega)
  refine zz_getS hx hb hT hown hK hPs2 0 rfl 6 (by decide) tw_58 rfl dV_isBetter_11 ?_
  refine lv_istore (lv' := [(5, .int (str y)), (4, .int (str x)), (0, .ref v), (1, .ref sv), (2, .int (nI x)), (3, .int (nI y))]) hx hb dV_isBetter_14 hl (by decide) rfl (fun ls hl => ?_)
  refine lv_iload hx hb dV_isBetter_16 (lv_at hl 1 rfl) ?_
  refine lv_iload hx hb dV_isBetter_18 (lv_at hl 0 rfl) ?_
  refine zz_ilt (tgt := 46) hx hb dV_isBetter_20 (by decide) (fun h1 => ?_) (fun h1 => ?_)
  · refine lv_iconst (v := 1) hx hb dV_isBetter_46 (by decide) ?_
    refine lv_goto (tgt := 51) hx hb dV_isBetter_47 (by decide) ?_
    exact zz_bret hx hb hr hlocks dV_isBetter_51 (by decide) (by unfold zv_btr; rw [if_pos (Or.inl h1)])
  · refine lv_iload hx hb dV_isBetter_23 (lv_at hl 1 rfl) ?_
    refine lv_iload hx hb dV_isBetter_25 (lv_at hl 0 rfl) ?_
    refine zz_ine (tgt := 50) hx hb dV_isBetter_27 (by decide) (fun h2 => ?_) (fun h2 => ?_)
    · refine lv_iconst (v := 0) hx hb dV_isBetter_50 (by decide) ?_
      exact zz_bret hx hb hr hlocks dV_isBetter_51 (by decide) (by unfold zv_btr; rw [if_neg (fun q => q.elim h1 (fun r => h2 r.1))])
    · refine lv_aload_n hx hb dV_isBetter_30 rfl (lv_at hl 2 rfl) ?_
      refine zz_getV hx hb hT hown hK hP 0 rfl 5 (by decide) tw_107 rfl dV_isBetter_31 ?_
      refine lv_iload_n hx hb dV_isBetter_34 rfl (lv_at hl 4 rfl) ?_
      refine zz_lald hx hb hK hP 2 0 rfl rfl x rfl (by first | omega | decide | assumption) (by decide) dV_isBetter_35 ?_
      refine lv_aload_n hx hb dV_isBetter_36 rfl (lv_at hl 2 rfl) ?_
      refine zz_getV hx hb hT hown hK hP 0 rfl 5 (by decide) tw_107 rfl dV_isBetter_37 ?_
      refine lv_iload_n hx hb dV_isBetter_40 rfl (lv_at hl 5 rfl) ?_
      refine zz_lald hx hb hK hP 2 0 rfl rfl y rfl (by first | omega | decide | assumption) (by decide) dV_isBetter_41 ?_
      refine zz_lge (tgt := 50) hx hb dV_isBetter_42 dV_isBetter_43 (by decide) (fun h3 => ?_) (fun h3 => ?_)
      · refine lv_iconst (v := 0) hx hb dV_isBetter_50 (by decide) ?_
        exact zz_bret hx hb hr hlocks dV_isBetter_51 (by decide) (by unfold zv_btr; rw [if_neg (fun q => q.elim h1 (fun r => h3 r.2))])
      · refine lv_iconst (v := 1) hx hb dV_isBetter_46 (by decide) ?_
        refine lv_goto (tgt := 51) hx hb dV_isBetter_47 (by decide) ?_
        exact zz_bret hx hb hr hlocks dV_isBetter_51 (by decide) (by unfold zv_btr; rw [if_pos (Or.inr ⟨h2, h3⟩)])
set_option maxHeartbeats 4000000 in
set_option maxRecDepth 100000 in
theorem ct_V_choosePeer (l : Launch) {dC : Nat → ClassId} {dI : Nat → Nat → Nat} {cJ cI cB cZ cS : ClassId} {v a b : Nat} {cand surv : Int32} {low high : Int64} {vo vd : Nat → Int64} {sv : Nat} {so sa sb sd : Nat → Nat} {den rch pol exg str : Nat → Int32} {xp rdl rds : Nat → Int64} {nn : Nat → Nat} {off del arr : Nat → Nat → Int64} : Met l yV_choosePeer [Cond.code yV_choosePeer cV_choosePeer 4 (some .int)] { frames := 1, cells := 0, slots := 0, locals := 25 } (va_Pc [.ref v, .ref sv] (zz_B (dC, dI) vcl (zz_T cJ cI cB cZ cS) (zv_W v a b cJ cand low high surv vo vd ++ zw_A sv cS cJ so sa sb sd den rch pol exg xp nn str rdl rds off del arr))) (zz_Q (.int (zn_maxi 0 (zv_o (zv_cp surv str vd 5))))) 0 0 (fun _ => False) := by
  refine Met.ofW (cc := cV_choosePeer) (maxL := 4) (ret := (some .int)) (by decide) rfl ?_
  intro p e s m args below meth c s₁ B hml hv
  obtain ⟨rfl, hT, hP, hK⟩ := hv
  have hx := B.exec
  have hb := B.bytes
  have hr := B.returns
  have hlocks := B.notSynchronized
  have hown : s.vm.findClass RV = some m.cls := findClass_of_methodNamed B.named
  have hl := lv_entry ([.ref v, .ref sv]) (n := 4) (Nat.le_of_ble_eq_true rfl)
  rw [lg_entry_eq]
  generalize (lg_sl ([.ref v, .ref sv]) ++ List.replicate (4 - (lg_sl ([.ref v, .ref sv])).length) Slot.unset).toArray = ls at hl ⊢
  have hl : lv_has ls 4 [(0, .ref v), (1, .ref sv)] := hl
  refine lv_iconst (v := (-1)) hx hb dV_choosePeer_0 (by decide) ?_
  refine lv_istore_n (lv' := [(2, .int (-1)), (0, .ref v), (1, .ref sv)]) hx hb dV_choosePeer_1 rfl hl (by decide) rfl (fun ls hl => ?_)
  refine lv_iconst (v := 0) hx hb dV_choosePeer_2 (by decide) ?_
  refine lv_istore_n (lv' := [(3, .int 0), (2, .int (-1)), (0, .ref v), (1, .ref sv)]) hx hb dV_choosePeer_3 rfl hl (by decide) rfl (fun ls hl => ?_)
  have lp : ∀ (k9 : Nat) (i : Nat), 5 - i < k9 → i ≤ 5 → ∀ ls : Array Slot, lv_has ls 4 [(0, .ref v), (1, .ref sv), (2, .int (zv_o (zv_cp surv str vd i))), (3, .int (nI i))] → W p l e ({ frames := 1, cells := 0, slots := 0, locals := 25 } : Room) s m ([.ref v, .ref sv] : List Value).toArray below meth c s.heap [] 0 0 (MQ below (zz_Q (.int (zn_maxi 0 (zv_o (zv_cp surv str vd 5))))) ([.ref v, .ref sv] : List Value).toArray s 0 0 (fun _ => False)) (F0 m 4 ls []) := by
    intro k9
    induction k9 with
    | zero => intro i hk9; exact absurd hk9 (Nat.not_lt_zero _)
    | succ k9 ih_lp =>
      intro i hk9 hi ls hl
      rcases hbo : zv_cp surv str vd i with _ | b9
      · have hl : lv_has ls 4 [(0, .ref v), (1, .ref sv), (2, .int (-1)), (3, .int (nI i))] := by rw [hbo] at hl; exact hl
        refine lv_iload_n hx hb dV_choosePeer_4 rfl (lv_at hl 3 rfl) ?_
        refine lv_iconst (v := 5) hx hb dV_choosePeer_5 (by decide) ?_
        refine zz_ige (tgt := 42) hx hb dV_choosePeer_6 (by decide) (fun h1 => ?_) (fun h1 => ?_)
        · have h1n := mt (zz_ltN (a := i) (b := 5) rfl rfl (by omega) (by omega)).mpr h1
          refine lv_iconst (v := 0) hx hb dV_choosePeer_42 (by decide) ?_
          refine lv_iload_n hx hb dV_choosePeer_43 rfl (lv_at hl 2 rfl) ?_
          refine zz_call (va_runS (Ts := []) (As := [.int 0, .int (-1)]) (own := RV) ⟨hx, hb, hml, hown, fun _ h => nomatch h⟩ (ct_J_max_7cf5 l) (zt_cs hT tc_J_max_7cf5 ts_J_max_7cf5 tw_557 ⟨Nat.le_of_ble_eq_true rfl, Nat.le_of_ble_eq_true rfl⟩) (zz_pre0 hT) rfl rfl hl.1 rfl (lv_room (Nat.le_of_ble_eq_true rfl)) dV_choosePeer_44 ⟨Nat.zero_le _, Nat.zero_le _⟩) ?_
          exact zz_iret hx hb hr hlocks dV_choosePeer_47 (by have e9 : i = 5 := (by omega); subst e9; rw [hbo]; rfl)
        · have h1n := (zz_ltN (a := i) (b := 5) rfl rfl (by omega) (by omega)).mp h1
          refine lv_aload_n hx hb dV_choosePeer_9 rfl (lv_at hl 0 rfl) ?_
          refine zz_getV hx hb hT hown hK hP 0 rfl 3 (by decide) tw_104 rfl dV_choosePeer_10 ?_
          refine lv_iload_n hx hb dV_choosePeer_13 rfl (lv_at hl 3 rfl) ?_
          refine zz_call (va_runS (Ts := []) (As := [.int surv, .int (nI i)]) (own := RV) ⟨hx, hb, hml, hown, fun _ h => nomatch h⟩ (ct_V_has l) (zt_cs hT tc_V_has ts_V_has tw_196 ⟨Nat.le_of_ble_eq_true rfl, Nat.le_of_ble_eq_true rfl⟩) (zz_pre0 hT) rfl rfl hl.1 rfl (lv_room (Nat.le_of_ble_eq_true rfl)) dV_choosePeer_14 ⟨Nat.zero_le _, Nat.zero_le _⟩) ?_
          refine zz_zeq (tgt := 36) hx hb dV_choosePeer_17 (by decide) (fun h2 => ?_) (fun h2 => ?_)
          · refine lv_iinc (k := 3) (v := nI (i + 1)) (lv' := [(3, .int (nI (i + 1))), (0, .ref v), (1, .ref sv), (2, .int (-1))]) hx hb dV_choosePeer_36 hl rfl (nI_succ _).symm (by decide) rfl (fun ls hl => ?_)
            refine lv_goto (tgt := 4) hx hb dV_choosePeer_39 (by decide) ?_
            exact ih_lp (i + 1) (by omega) (by omega) _ (by rw [show zv_o (zv_cp surv str vd (i + 1)) = (-1) from congrArg zv_o ((if_pos h2).trans hbo)]; exact lv_sub hl [1, 2, 3, 0] rfl)
          · refine lv_iload_n hx hb dV_choosePeer_20 rfl (lv_at hl 2 rfl) ?_
            refine zz_zlt (tgt := 34) hx hb dV_choosePeer_21 (by decide) (fun _ => ?_) (fun h => absurd h (by decide))
            refine lv_iload_n hx hb dV_choosePeer_34 rfl (lv_at hl 3 rfl) ?_
            refine lv_istore_n (lv' := [(2, .int (nI i)), (0, .ref v), (1, .ref sv), (3, .int (nI i))]) hx hb dV_choosePeer_35 rfl hl (by decide) rfl (fun ls hl => ?_)
            refine lv_iinc (k := 3) (v := nI (i + 1)) (lv' := [(3, .int (nI (i + 1))), (2, .int (nI i)), (0, .ref v), (1, .ref sv)]) hx hb dV_choosePeer_36 hl rfl (nI_succ _).symm (by decide) rfl (fun ls hl => ?_)
            refine lv_goto (tgt := 4) hx hb dV_choosePeer_39 (by decide) ?_
            exact ih_lp (i + 1) (by omega) (by omega) _ (by rw [show zv_o (zv_cp surv str vd (i + 1)) = nI i from congrArg zv_o (zv_cp_n h2 hbo)]; exact lv_sub hl [2, 3, 1, 0] rfl)
      · have hl : lv_has ls 4 [(0, .ref v), (1, .ref sv), (2, .int (nI b9)), (3, .int (nI i))] := by rw [hbo] at hl; exact hl
        have hb9 := zv_cp_lt hbo
        refine lv_iload_n hx hb dV_choosePeer_4 rfl (lv_at hl 3 rfl) ?_
        refine lv_iconst (v := 5) hx hb dV_choosePeer_5 (by decide) ?_
        refine zz_ige (tgt := 42) hx hb dV_choosePeer_6 (by decide) (fun h3 => ?_) (fun h3 => ?_)
        · have h3n := mt (zz_ltN (a := i) (b := 5) rfl rfl (by omega) (by omega)).mpr h3
          refine lv_iconst (v := 0) hx hb dV_choosePeer_42 (by decide) ?_
          refine lv_iload_n hx hb dV_choosePeer_43 rfl (lv_at hl 2 rfl) ?_
          refine zz_call (va_runS (Ts := []) (As := [.int 0, .int (nI b9)]) (own := RV) ⟨hx, hb, hml, hown, fun _ h => nomatch h⟩ (ct_J_max_7cf5 l) (zt_cs hT tc_J_max_7cf5 ts_J_max_7cf5 tw_557 ⟨Nat.le_of_ble_eq_true rfl, Nat.le_of_ble_eq_true rfl⟩) (zz_pre0 hT) rfl rfl hl.1 rfl (lv_room (Nat.le_of_ble_eq_true rfl)) dV_choosePeer_44 ⟨Nat.zero_le _, Nat.zero_le _⟩) ?_
          exact zz_iret hx hb hr hlocks dV_choosePeer_47 (by have e9 : i = 5 := (by omega); subst e9; rw [hbo]; rfl)
        · have h3n := (zz_ltN (a := i) (b := 5) rfl rfl (by omega) (by omega)).mp h3
          refine lv_aload_n hx hb dV_choosePeer_9 rfl (lv_at hl 0 rfl) ?_
          refine zz_getV hx hb hT hown hK hP 0 rfl 3 (by decide) tw_104 rfl dV_choosePeer_10 ?_
          refine lv_iload_n hx hb dV_choosePeer_13 rfl (lv_at hl 3 rfl) ?_
          refine zz_call (va_runS (Ts := []) (As := [.int surv, .int (nI i)]) (own := RV) ⟨hx, hb, hml, hown, fun _ h => nomatch h⟩ (ct_V_has l) (zt_cs hT tc_V_has ts_V_has tw_196 ⟨Nat.le_of_ble_eq_true rfl, Nat.le_of_ble_eq_true rfl⟩) (zz_pre0 hT) rfl rfl hl.1 rfl (lv_room (Nat.le_of_ble_eq_true rfl)) dV_choosePeer_14 ⟨Nat.zero_le _, Nat.zero_le _⟩) ?_
          refine zz_zeq (tgt := 36) hx hb dV_choosePeer_17 (by decide) (fun h4 => ?_) (fun h4 => ?_)
          · refine lv_iinc (k := 3) (v := nI (i + 1)) (lv' := [(3, .int (nI (i + 1))), (0, .ref v), (1, .ref sv), (2, .int (nI b9))]) hx hb dV_choosePeer_36 hl rfl (nI_succ _).symm (by decide) rfl (fun ls hl => ?_)
            refine lv_goto (tgt := 4) hx hb dV_choosePeer_39 (by decide) ?_
            exact ih_lp (i + 1) (by omega) (by omega) _ (by rw [show zv_o (zv_cp surv str vd (i + 1)) = nI b9 from congrArg zv_o ((if_pos h4).trans hbo)]; exact lv_sub hl [1, 2, 3, 0] rfl)
          · refine lv_iload_n hx hb dV_choosePeer_20 rfl (lv_at hl 2 rfl) ?_
            refine zz_zlt (tgt := 34) hx hb dV_choosePeer_21 (by decide) (fun h => absurd ((zz_ltN (a := b9) (b := 0) rfl rfl (by omega) (by omega)).mp h) (Nat.not_lt_zero _)) (fun _ => ?_)
            refine lv_aload_n hx hb dV_choosePeer_24 rfl (lv_at hl 0 rfl) ?_
            refine lv_aload_n hx hb dV_choosePeer_25 rfl (lv_at hl 1 rfl) ?_
            refine lv_iload_n hx hb dV_choosePeer_26 rfl (lv_at hl 3 rfl) ?_
            refine lv_iload_n hx hb dV_choosePeer_27 rfl (lv_at hl 2 rfl) ?_
            refine zz_call (va_runV (Ts := []) (As := [.ref sv, .int (nI i), .int (nI b9)]) (own := RV) ⟨hx, hb, hml, hown, fun _ h => nomatch h⟩ (ct_V_isBetter l (x := i) (y := b9) (by omega) (by omega)) (zt_cv hT tc_V_isBetter tv_V_isBetter tw_553 ⟨Nat.le_of_ble_eq_true rfl, Nat.le_of_ble_eq_true rfl⟩) (zz_preV (q0 := 0) hT hP hK rfl rfl) rfl rfl hl.1 rfl (lv_room (Nat.le_of_ble_eq_true rfl)) dV_choosePeer_28 ⟨Nat.zero_le _, Nat.zero_le _⟩) ?_
            refine zz_zeq (tgt := 36) hx hb dV_choosePeer_31 (by decide) (fun h5 => ?_) (fun h5 => ?_)
            · refine lv_iinc (k := 3) (v := nI (i + 1)) (lv' := [(3, .int (nI (i + 1))), (0, .ref v), (1, .ref sv), (2, .int (nI b9))]) hx hb dV_choosePeer_36 hl rfl (nI_succ _).symm (by decide) rfl (fun ls hl => ?_)
              refine lv_goto (tgt := 4) hx hb dV_choosePeer_39 (by decide) ?_
              exact ih_lp (i + 1) (by omega) (by omega) _ (by rw [show zv_o (zv_cp surv str vd (i + 1)) = nI b9 from congrArg zv_o (zv_cp_s h4 hbo h5)]; exact lv_sub hl [1, 2, 3, 0] rfl)
            · refine lv_iload_n hx hb dV_choosePeer_34 rfl (lv_at hl 3 rfl) ?_
              refine lv_istore_n (lv' := [(2, .int (nI i)), (0, .ref v), (1, .ref sv), (3, .int (nI i))]) hx hb dV_choosePeer_35 rfl hl (by decide) rfl (fun ls hl => ?_)
              refine lv_iinc (k := 3) (v := nI (i + 1)) (lv' := [(3, .int (nI (i + 1))), (2, .int (nI i)), (0, .ref v), (1, .ref sv)]) hx hb dV_choosePeer_36 hl rfl (nI_succ _).symm (by decide) rfl (fun ls hl => ?_)
              refine lv_goto (tgt := 4) hx hb dV_choosePeer_39 (by decide) ?_
              exact ih_lp (i + 1) (by omega) (by omega) _ (by rw [show zv_o (zv_cp surv str vd (i + 1)) = nI i from congrArg zv_o (zv_cp_t h4 hbo h5)]; exact lv_sub hl [2, 3, 1, 0] rfl)
  exact lp (5 - 0 + 1) 0 (by omega) (Nat.zero_le _) _ (by rw [show zv_o (zv_cp surv str vd 0) = (-1) from rfl]; rw [show nI 0 = 0 from rfl]; exact lv_sub hl [2, 3, 1, 0] rfl)
set_option maxHeartbeats 4000000 in
set_option maxRecDepth 100000 in
theorem ct_M_peerOf (l : Launch) {dC : Nat → ClassId} {dI : Nat → Nat → Nat} {cJ cI cB cZ cS : ClassId} {o : Nat} {ad : Nat → Nat} {thr wst : Int32} {loc slw low high : Int64} {pk den rch pol ask str ins : Nat → Int32} {xp rdl rds off del cam : Nat → Int64} {nn : Nat → Nat} (hn : ∀ k, k < 5 → nn k ≤ 8) : Met l yM_peerOf [Cond.code yM_peerOf cM_peerOf 4 (some .int)] { frames := 4, cells := 0, slots := 0, locals := 95 } (va_Pc [.ref o] (zz_B (dC, dI) vcl (zz_T cJ cI cB cZ cS) (zm_W o ad cI cJ cZ thr loc slw wst pk den rch pol ask xp str rdl rds nn off del cam ins low high))) (zz_Q (.int (zv_o (zm_pe ins str (zm_d rdl rds off del cam loc nn) 5)))) 0 0 (fun _ => False) := by
  refine Met.ofW (cc := cM_peerOf) (maxL := 4) (ret := (some .int)) (by decide) rfl ?_
  intro p e s m args below meth c s₁ B hml hv
  obtain ⟨rfl, hT, hP, hK⟩ := hv
  have hx := B.exec
  have hb := B.bytes
  have hr := B.returns
  have hlocks := B.notSynchronized
  have hown : s.vm.findClass RM = some m.cls := findClass_of_methodNamed B.named
  have hl := lv_entry ([.ref o]) (n := 4) (Nat.le_of_ble_eq_true rfl)
  rw [lg_entry_eq]
  generalize (lg_sl ([.ref o]) ++ List.replicate (4 - (lg_sl ([.ref o])).length) Slot.unset).toArray = ls at hl ⊢
  have hl : lv_has ls 4 [(0, .ref o)] := hl
  refine lv_iconst (v := (-1)) hx hb dM_peerOf_0 (by decide) ?_
  refine lv_istore_n (lv' := [(1, .int (-1)), (0, .ref o)]) hx hb dM_peerOf_1 rfl hl (by decide) rfl (fun ls hl => ?_)
  refine lv_iconst (v := 4) hx hb dM_peerOf_2 (by decide) ?_
  refine lv_istore_n (lv' := [(2, .int 4), (1, .int (-1)), (0, .ref o)]) hx hb dM_peerOf_3 rfl hl (by decide) rfl (fun ls hl => ?_)
  have lp : ∀ (k9 : Nat) (j : Nat) (r : Nat), j < k9 → j + r = 5 → ∀ ls : Array Slot, lv_has ls 4 [(0, .ref o), (1, .int (zv_o (zm_pe ins str (zm_d rdl rds off del cam loc nn) r))), (2, .int (zm_dn j))] → W p l e ({ frames := 4, cells := 0, slots := 0, locals := 95 } : Room) s m ([.ref o] : List Value).toArray below meth c s.heap [] 0 0 (MQ below (zz_Q (.int (zv_o (zm_pe ins str (zm_d rdl rds off del cam loc nn) 5)))) ([.ref o] : List Value).toArray s 0 0 (fun _ => False)) (F0 m 4 ls []) := by
    intro k9
    induction k9 with
    | zero => intro j r hk9; exact absurd hk9 (Nat.not_lt_zero _)
    | succ k9 ih_lp =>
      intro j r hk9 hjr ls hl
      rcases hbo : zm_pe ins str (zm_d rdl rds off del cam loc nn) r with _ | b9
      · have hl : lv_has ls 4 [(0, .ref o), (1, .int (-1)), (2, .int (zm_dn j))] := by rw [hbo] at hl; exact hl
        rcases j with _ | j
        · have hl : lv_has ls 4 [(0, .ref o), (1, .int (-1)), (2, .int (-1))] := hl
          refine lv_iload_n hx hb dM_peerOf_4 rfl (lv_at hl 2 rfl) ?_
          refine zz_zlt (tgt := 87) hx hb dM_peerOf_5 (by decide) (fun _ => ?_) (fun h => absurd h (by decide))
          refine lv_iload_n hx hb dM_peerOf_87 rfl (lv_at hl 1 rfl) ?_
          exact zz_iret hx hb hr hlocks dM_peerOf_88 (by have e9 : r = 5 := (by omega); subst e9; rw [hbo]; rfl)
        · have hl : lv_has ls 4 [(0, .ref o), (1, .int (-1)), (2, .int (nI j))] := hl
          refine lv_iload_n hx hb dM_peerOf_4 rfl (lv_at hl 2 rfl) ?_
          refine zz_zlt (tgt := 87) hx hb dM_peerOf_5 (by decide) (fun h => absurd ((zz_ltN (a := j) (b := 0) rfl rfl (by omega) (by omega)).mp h) (Nat.not_lt_zero _)) (fun _ => ?_)
          refine lv_aload_n hx hb dM_peerOf_8 rfl (lv_at hl 0 rfl) ?_
          refine zz_getM hx hb hT hown hK hP 0 rfl 17 (by decide) tw_634 rfl dM_peerOf_9 ?_
          refine lv_iload_n hx hb dM_peerOf_12 rfl (lv_at hl 2 rfl) ?_
          refine zz_zald hx hb hK hP 14 3 rfl rfl j rfl (by first | omega | decide | assumption) (by decide) dM_peerOf_13 ?_
          refine zz_zeq (tgt := 69) hx hb dM_peerOf_14 (by decide) (fun h1 => ?_) (fun h1 => ?_)
          · refine lv_iconst (v := 0) hx hb dM_peerOf_69 (by decide) ?_
            refine lv_istore_n (lv' := [(3, .int 0), (0, .ref o), (1, .int (-1)), (2, .int (nI j))]) hx hb dM_peerOf_70 rfl hl (by decide) rfl (fun ls hl => ?_)
            refine lv_iload_n hx hb dM_peerOf_71 rfl (lv_at hl 0 rfl) ?_
            refine zz_zeq (tgt := 79) hx hb dM_peerOf_72 (by decide) (fun _ => ?_) (fun h => absurd h (by decide))
            refine lv_iload_n hx hb dM_peerOf_79 rfl (lv_at hl 2 rfl) ?_
            refine lv_istore_n (lv' := [(1, .int (-1)), (3, .int 0), (0, .ref o), (2, .int (nI j))]) hx hb dM_peerOf_80 rfl hl (by decide) rfl (fun ls hl => ?_)
            refine lv_iinc (k := 3) (v := (nI j) + (-1)) (lv' := [(2, .int ((nI j) + (-1))), (1, .int (-1)), (3, .int 0), (0, .ref o)]) hx hb dM_peerOf_81 hl rfl rfl (by decide) rfl (fun ls hl => ?_)
            refine lv_goto (tgt := 4) hx hb dM_peerOf_84 (by decide) ?_
            exact ih_lp j (r + 1) (by omega) (by omega) _ (by rw [show zv_o (zm_pe ins str (zm_d rdl rds off del cam loc nn) (r + 1)) = (-1) from congrArg zv_o ((zm_pe_step (ins := ins) (str := str) (df := zm_d rdl rds off del cam loc nn) hjr).trans (zm_st0 h1 hbo))]; rw [show zm_dn j = (nI j) + (-1) from zm_dn_m _]; exact lv_sub hl [3, 1, 0] rfl)
          · refine lv_iload_n hx hb dM_peerOf_17 rfl (lv_at hl 1 rfl) ?_
            refine zz_zlt (tgt := 65) hx hb dM_peerOf_18 (by decide) (fun _ => ?_) (fun h => absurd h (by decide))
            refine lv_iconst (v := 1) hx hb dM_peerOf_65 (by decide) ?_
            refine lv_goto (tgt := 70) hx hb dM_peerOf_66 (by decide) ?_
            refine lv_istore_n (lv' := [(3, .int 1), (0, .ref o), (1, .int (-1)), (2, .int (nI j))]) hx hb dM_peerOf_70 rfl hl (by decide) rfl (fun ls hl => ?_)
            refine lv_iload_n hx hb dM_peerOf_71 rfl (lv_at hl 0 rfl) ?_
            refine zz_zeq (tgt := 79) hx hb dM_peerOf_72 (by decide) (fun h => absurd h (by decide)) (fun _ => ?_)
            refine lv_iload_n hx hb dM_peerOf_75 rfl (lv_at hl 3 rfl) ?_
            refine lv_goto (tgt := 80) hx hb dM_peerOf_76 (by decide) ?_
            refine lv_istore_n (lv' := [(1, .int (nI j)), (3, .int 1), (0, .ref o), (2, .int (nI j))]) hx hb dM_peerOf_80 rfl hl (by decide) rfl (fun ls hl => ?_)
            refine lv_iinc (k := 3) (v := (nI j) + (-1)) (lv' := [(2, .int ((nI j) + (-1))), (1, .int (nI j)), (3, .int 1), (0, .ref o)]) hx hb dM_peerOf_81 hl rfl rfl (by decide) rfl (fun ls hl => ?_)
            refine lv_goto (tgt := 4) hx hb dM_peerOf_84 (by decide) ?_
            exact ih_lp j (r + 1) (by omega) (by omega) _ (by rw [show zv_o (zm_pe ins str (zm_d rdl rds off del cam loc nn) (r + 1)) = nI j from congrArg zv_o ((zm_pe_step (ins := ins) (str := str) (df := zm_d rdl rds off del cam loc nn) hjr).trans (zm_st3 h1 hbo))]; rw [show zm_dn j = (nI j) + (-1) from zm_dn_m _]; exact lv_sub hl [3, 1, 0] rfl)
      · have hl : lv_has ls 4 [(0, .ref o), (1, .int (nI b9)), (2, .int (zm_dn j))] := by rw [hbo] at hl; exact hl
        have hb9 := zm_pe_lt hbo
        rcases j with _ | j
        · have hl : lv_has ls 4 [(0, .ref o), (1, .int (nI b9)), (2, .int (-1))] := hl
          refine lv_iload_n hx hb dM_peerOf_4 rfl (lv_at hl 2 rfl) ?_
          refine zz_zlt (tgt := 87) hx hb dM_peerOf_5 (by decide) (fun _ => ?_) (fun h => absurd h (by decide))
          refine lv_iload_n hx hb dM_peerOf_87 rfl (lv_at hl 1 rfl) ?_
          exact zz_iret hx hb hr hlocks dM_peerOf_88 (by have e9 : r = 5 := (by omega); subst e9; rw [hbo]; rfl)
        · have hl : lv_has ls 4 [(0, .ref o), (1, .int (nI b9)), (2, .int (nI j))] := hl
          refine lv_iload_n hx hb dM_peerOf_4 rfl (lv_at hl 2 rfl) ?_
          refine zz_zlt (tgt := 87) hx hb dM_peerOf_5 (by decide) (fun h => absurd ((zz_ltN (a := j) (b := 0) rfl rfl (by omega) (by omega)).mp h) (Nat.not_lt_zero _)) (fun _ => ?_)
          refine lv_aload_n hx hb dM_peerOf_8 rfl (lv_at hl 0 rfl) ?_
          refine zz_getM hx hb hT hown hK hP 0 rfl 17 (by decide) tw_634 rfl dM_peerOf_9 ?_
          refine lv_iload_n hx hb dM_peerOf_12 rfl (lv_at hl 2 rfl) ?_
          refine zz_zald hx hb hK hP 14 3 rfl rfl j rfl (by first | omega | decide | assumption) (by decide) dM_peerOf_13 ?_
          refine zz_zeq (tgt := 69) hx hb dM_peerOf_14 (by decide) (fun h2 => ?_) (fun h2 => ?_)
          · refine lv_iconst (v := 0) hx hb dM_peerOf_69 (by decide) ?_
            refine lv_istore_n (lv' := [(3, .int 0), (0, .ref o), (1, .int (nI b9)), (2, .int (nI j))]) hx hb dM_peerOf_70 rfl hl (by decide) rfl (fun ls hl => ?_)
            refine lv_iload_n hx hb dM_peerOf_71 rfl (lv_at hl 0 rfl) ?_
            refine zz_zeq (tgt := 79) hx hb dM_peerOf_72 (by decide) (fun _ => ?_) (fun h => absurd h (by decide))
            refine lv_iload_n hx hb dM_peerOf_79 rfl (lv_at hl 2 rfl) ?_
            refine lv_istore_n (lv' := [(1, .int (nI b9)), (3, .int 0), (0, .ref o), (2, .int (nI j))]) hx hb dM_peerOf_80 rfl hl (by decide) rfl (fun ls hl => ?_)
            refine lv_iinc (k := 3) (v := (nI j) + (-1)) (lv' := [(2, .int ((nI j) + (-1))), (1, .int (nI b9)), (3, .int 0), (0, .ref o)]) hx hb dM_peerOf_81 hl rfl rfl (by decide) rfl (fun ls hl => ?_)
            refine lv_goto (tgt := 4) hx hb dM_peerOf_84 (by decide) ?_
            exact ih_lp j (r + 1) (by omega) (by omega) _ (by rw [show zv_o (zm_pe ins str (zm_d rdl rds off del cam loc nn) (r + 1)) = nI b9 from congrArg zv_o ((zm_pe_step (ins := ins) (str := str) (df := zm_d rdl rds off del cam loc nn) hjr).trans (zm_st1 h2 hbo))]; rw [show zm_dn j = (nI j) + (-1) from zm_dn_m _]; exact lv_sub hl [3, 1, 0] rfl)
          · refine lv_iload_n hx hb dM_peerOf_17 rfl (lv_at hl 1 rfl) ?_
            refine zz_zlt (tgt := 65) hx hb dM_peerOf_18 (by decide) (fun h => absurd ((zz_ltN (a := b9) (b := 0) rfl rfl (by omega) (by omega)).mp h) (Nat.not_lt_zero _)) (fun _ => ?_)
            refine lv_aload_n hx hb dM_peerOf_21 rfl (lv_at hl 0 rfl) ?_
            refine zz_getM hx hb hT hown hK hP 0 rfl 10 (by decide) tw_627 rfl dM_peerOf_22 ?_
            refine lv_iload_n hx hb dM_peerOf_25 rfl (lv_at hl 2 rfl) ?_
            refine zz_iald hx hb hK hP 7 1 rfl rfl j rfl (by first | omega | decide | assumption) (by decide) dM_peerOf_26 ?_
            refine lv_aload_n hx hb dM_peerOf_27 rfl (lv_at hl 0 rfl) ?_
            refine zz_getM hx hb hT hown hK hP 0 rfl 10 (by decide) tw_627 rfl dM_peerOf_28 ?_
            refine lv_iload_n hx hb dM_peerOf_31 rfl (lv_at hl 1 rfl) ?_
            refine zz_iald hx hb hK hP 7 1 rfl rfl b9 rfl (by first | omega | decide | assumption) (by decide) dM_peerOf_32 ?_
            refine zz_ilt (tgt := 65) hx hb dM_peerOf_33 (by decide) (fun h3 => ?_) (fun h3 => ?_)
            · refine lv_iconst (v := 1) hx hb dM_peerOf_65 (by decide) ?_
              refine lv_goto (tgt := 70) hx hb dM_peerOf_66 (by decide) ?_
              refine lv_istore_n (lv' := [(3, .int 1), (0, .ref o), (1, .int (nI b9)), (2, .int (nI j))]) hx hb dM_peerOf_70 rfl hl (by decide) rfl (fun ls hl => ?_)
              refine lv_iload_n hx hb dM_peerOf_71 rfl (lv_at hl 0 rfl) ?_
              refine zz_zeq (tgt := 79) hx hb dM_peerOf_72 (by decide) (fun h => absurd h (by decide)) (fun _ => ?_)
              refine lv_iload_n hx hb dM_peerOf_75 rfl (lv_at hl 3 rfl) ?_
              refine lv_goto (tgt := 80) hx hb dM_peerOf_76 (by decide) ?_
              refine lv_istore_n (lv' := [(1, .int (nI j)), (3, .int 1), (0, .ref o), (2, .int (nI j))]) hx hb dM_peerOf_80 rfl hl (by decide) rfl (fun ls hl => ?_)
              refine lv_iinc (k := 3) (v := (nI j) + (-1)) (lv' := [(2, .int ((nI j) + (-1))), (1, .int (nI j)), (3, .int 1), (0, .ref o)]) hx hb dM_peerOf_81 hl rfl rfl (by decide) rfl (fun ls hl => ?_)
              refine lv_goto (tgt := 4) hx hb dM_peerOf_84 (by decide) ?_
              exact ih_lp j (r + 1) (by omega) (by omega) _ (by rw [show zv_o (zm_pe ins str (zm_d rdl rds off del cam loc nn) (r + 1)) = nI j from congrArg zv_o ((zm_pe_step (ins := ins) (str := str) (df := zm_d rdl rds off del cam loc nn) hjr).trans (zm_st4 h2 hbo (Or.inl h3)))]; rw [show zm_dn j = (nI j) + (-1) from zm_dn_m _]; exact lv_sub hl [3, 1, 0] rfl)
            · refine lv_aload_n hx hb dM_peerOf_36 rfl (lv_at hl 0 rfl) ?_
              refine zz_getM hx hb hT hown hK hP 0 rfl 10 (by decide) tw_627 rfl dM_peerOf_37 ?_
              refine lv_iload_n hx hb dM_peerOf_40 rfl (lv_at hl 2 rfl) ?_
              refine zz_iald hx hb hK hP 7 1 rfl rfl j rfl (by first | omega | decide | assumption) (by decide) dM_peerOf_41 ?_
              refine lv_aload_n hx hb dM_peerOf_42 rfl (lv_at hl 0 rfl) ?_
              refine zz_getM hx hb hT hown hK hP 0 rfl 10 (by decide) tw_627 rfl dM_peerOf_43 ?_
              refine lv_iload_n hx hb dM_peerOf_46 rfl (lv_at hl 1 rfl) ?_
              refine zz_iald hx hb hK hP 7 1 rfl rfl b9 rfl (by first | omega | decide | assumption) (by decide) dM_peerOf_47 ?_
              refine zz_ine (tgt := 69) hx hb dM_peerOf_48 (by decide) (fun h4 => ?_) (fun h4 => ?_)
              · refine lv_iconst (v := 0) hx hb dM_peerOf_69 (by decide) ?_
                refine lv_istore_n (lv' := [(3, .int 0), (0, .ref o), (1, .int (nI b9)), (2, .int (nI j))]) hx hb dM_peerOf_70 rfl hl (by decide) rfl (fun ls hl => ?_)
                refine lv_iload_n hx hb dM_peerOf_71 rfl (lv_at hl 0 rfl) ?_
                refine zz_zeq (tgt := 79) hx hb dM_peerOf_72 (by decide) (fun _ => ?_) (fun h => absurd h (by decide))
                refine lv_iload_n hx hb dM_peerOf_79 rfl (lv_at hl 2 rfl) ?_
                refine lv_istore_n (lv' := [(1, .int (nI b9)), (3, .int 0), (0, .ref o), (2, .int (nI j))]) hx hb dM_peerOf_80 rfl hl (by decide) rfl (fun ls hl => ?_)
                refine lv_iinc (k := 3) (v := (nI j) + (-1)) (lv' := [(2, .int ((nI j) + (-1))), (1, .int (nI b9)), (3, .int 0), (0, .ref o)]) hx hb dM_peerOf_81 hl rfl rfl (by decide) rfl (fun ls hl => ?_)
                refine lv_goto (tgt := 4) hx hb dM_peerOf_84 (by decide) ?_
                exact ih_lp j (r + 1) (by omega) (by omega) _ (by rw [show zv_o (zm_pe ins str (zm_d rdl rds off del cam loc nn) (r + 1)) = nI b9 from congrArg zv_o ((zm_pe_step (ins := ins) (str := str) (df := zm_d rdl rds off del cam loc nn) hjr).trans (zm_st2 h2 hbo (fun q => q.elim h3 (fun r9 => h4 r9.1))))]; rw [show zm_dn j = (nI j) + (-1) from zm_dn_m _]; exact lv_sub hl [3, 1, 0] rfl)
              · refine lv_aload_n hx hb dM_peerOf_51 rfl (lv_at hl 0 rfl) ?_
                refine lv_iload_n hx hb dM_peerOf_52 rfl (lv_at hl 2 rfl) ?_
                refine zz_call (va_runV (Ts := []) (As := [.int (nI j)]) (own := RM) ⟨hx, hb, hml, hown, fun _ h => nomatch h⟩ (ct_M_distanceOf l (k := j) (by omega) (by first | assumption | exact hn _ (by omega))) (zt_cv hT tc_M_distanceOf tv_M_distanceOf tw_791 ⟨Nat.le_of_ble_eq_true rfl, Nat.le_of_ble_eq_true rfl⟩) (zz_preV (q0 := 0) hT hP hK rfl rfl) rfl rfl hl.1 rfl (lv_room (Nat.le_of_ble_eq_true rfl)) dM_peerOf_53 ⟨Nat.zero_le _, Nat.zero_le _⟩) ?_
                refine lv_aload_n hx hb dM_peerOf_56 rfl (lv_at hl 0 rfl) ?_
                refine lv_iload_n hx hb dM_peerOf_57 rfl (lv_at hl 1 rfl) ?_
                refine zz_call (va_runV (Ts := []) (As := [.int (nI b9)]) (own := RM) ⟨hx, hb, hml, hown, fun _ h => nomatch h⟩ (ct_M_distanceOf l (k := b9) (by omega) (by first | assumption | exact hn _ (by omega))) (zt_cv hT tc_M_distanceOf tv_M_distanceOf tw_791 ⟨Nat.le_of_ble_eq_true rfl, Nat.le_of_ble_eq_true rfl⟩) (zz_preV (q0 := 0) hT hP hK rfl rfl) rfl rfl hl.1 rfl (lv_room (Nat.le_of_ble_eq_true rfl)) dM_peerOf_58 ⟨Nat.zero_le _, Nat.zero_le _⟩) ?_
                refine zz_lgt (tgt := 69) hx hb dM_peerOf_61 dM_peerOf_62 (by decide) (fun h5 => ?_) (fun h5 => ?_)
                · refine lv_iconst (v := 0) hx hb dM_peerOf_69 (by decide) ?_
                  refine lv_istore_n (lv' := [(3, .int 0), (0, .ref o), (1, .int (nI b9)), (2, .int (nI j))]) hx hb dM_peerOf_70 rfl hl (by decide) rfl (fun ls hl => ?_)
                  refine lv_iload_n hx hb dM_peerOf_71 rfl (lv_at hl 0 rfl) ?_
                  refine zz_zeq (tgt := 79) hx hb dM_peerOf_72 (by decide) (fun _ => ?_) (fun h => absurd h (by decide))
                  refine lv_iload_n hx hb dM_peerOf_79 rfl (lv_at hl 2 rfl) ?_
                  refine lv_istore_n (lv' := [(1, .int (nI b9)), (3, .int 0), (0, .ref o), (2, .int (nI j))]) hx hb dM_peerOf_80 rfl hl (by decide) rfl (fun ls hl => ?_)
                  refine lv_iinc (k := 3) (v := (nI j) + (-1)) (lv' := [(2, .int ((nI j) + (-1))), (1, .int (nI b9)), (3, .int 0), (0, .ref o)]) hx hb dM_peerOf_81 hl rfl rfl (by decide) rfl (fun ls hl => ?_)
                  refine lv_goto (tgt := 4) hx hb dM_peerOf_84 (by decide) ?_
                  exact ih_lp j (r + 1) (by omega) (by omega) _ (by rw [show zv_o (zm_pe ins str (zm_d rdl rds off del cam loc nn) (r + 1)) = nI b9 from congrArg zv_o ((zm_pe_step (ins := ins) (str := str) (df := zm_d rdl rds off del cam loc nn) hjr).trans (zm_st2 h2 hbo (fun q => q.elim h3 (fun r9 => r9.2 h5))))]; rw [show zm_dn j = (nI j) + (-1) from zm_dn_m _]; exact lv_sub hl [3, 1, 0] rfl)
                · refine lv_iconst (v := 1) hx hb dM_peerOf_65 (by decide) ?_
                  refine lv_goto (tgt := 70) hx hb dM_peerOf_66 (by decide) ?_
                  refine lv_istore_n (lv' := [(3, .int 1), (0, .ref o), (1, .int (nI b9)), (2, .int (nI j))]) hx hb dM_peerOf_70 rfl hl (by decide) rfl (fun ls hl => ?_)
                  refine lv_iload_n hx hb dM_peerOf_71 rfl (lv_at hl 0 rfl) ?_
                  refine zz_zeq (tgt := 79) hx hb dM_peerOf_72 (by decide) (fun h => absurd h (by decide)) (fun _ => ?_)
                  refine lv_iload_n hx hb dM_peerOf_75 rfl (lv_at hl 3 rfl) ?_
                  refine lv_goto (tgt := 80) hx hb dM_peerOf_76 (by decide) ?_
                  refine lv_istore_n (lv' := [(1, .int (nI j)), (3, .int 1), (0, .ref o), (2, .int (nI j))]) hx hb dM_peerOf_80 rfl hl (by decide) rfl (fun ls hl => ?_)
                  refine lv_iinc (k := 3) (v := (nI j) + (-1)) (lv' := [(2, .int ((nI j) + (-1))), (1, .int (nI j)), (3, .int 1), (0, .ref o)]) hx hb dM_peerOf_81 hl rfl rfl (by decide) rfl (fun ls hl => ?_)
                  refine lv_goto (tgt := 4) hx hb dM_peerOf_84 (by decide) ?_
                  exact ih_lp j (r + 1) (by omega) (by omega) _ (by rw [show zv_o (zm_pe ins str (zm_d rdl rds off del cam loc nn) (r + 1)) = nI j from congrArg zv_o ((zm_pe_step (ins := ins) (str := str) (df := zm_d rdl rds off del cam loc nn) hjr).trans (zm_st4 h2 hbo (Or.inr ⟨h4, h5⟩)))]; rw [show zm_dn j = (nI j) + (-1) from zm_dn_m _]; exact lv_sub hl [3, 1, 0] rfl)
  exact lp (5 + 1) 5 0 (by omega) rfl _ (by rw [show zv_o (zm_pe ins str (zm_d rdl rds off del cam loc nn) 0) = (-1) from rfl]; rw [show zm_dn 5 = 4 from rfl]; exact lv_sub hl [2, 1, 0] rfl)
end
