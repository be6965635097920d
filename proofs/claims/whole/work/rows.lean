section
-- ===== PART A: goes FIRST, ahead of the names: the tables' words, and 'selects' of the private methods out of them =====
/-- a private method of a class that the tables say can be made, by its rows of tables_1 -/
def lw_okq (q : MethodName × Nat) : Prop := (q.1.cls ≠ "java/lang/invoke/MethodHandle" ∧ q.1.cls ≠ "java/lang/invoke/VarHandle") ∧ Cond.instantiable q.1.cls q.2 ∈ tables_1 ∧ Cond.privateMethod q.1 ∈ tables_1 ∧ Cond.instanceMethod q.1 ∈ tables_1
theorem lw_p0 : lw_okq (⟨"DoorBench", "beginDay", "(I)V"⟩, 16) := ⟨⟨by decide +kernel, by decide +kernel⟩, List.mem_of_getElem? (i := 12) (by decide +kernel), List.mem_of_getElem? (i := 34) (by decide +kernel), List.mem_of_getElem? (i := 35) (by decide +kernel)⟩
theorem lw_p1 : lw_okq (⟨"DoorBench", "isDoor", "(I)Z"⟩, 16) := ⟨⟨by decide +kernel, by decide +kernel⟩, List.mem_of_getElem? (i := 12) (by decide +kernel), List.mem_of_getElem? (i := 105) (by decide +kernel), List.mem_of_getElem? (i := 106) (by decide +kernel)⟩
theorem lw_p2 : lw_okq (⟨"DoorBench", "isTick", "(I)Z"⟩, 16) := ⟨⟨by decide +kernel, by decide +kernel⟩, List.mem_of_getElem? (i := 12) (by decide +kernel), List.mem_of_getElem? (i := 109) (by decide +kernel), List.mem_of_getElem? (i := 110) (by decide +kernel)⟩
theorem lw_p3 : lw_okq (⟨"DoorBench", "isTime", "(I)Z"⟩, 16) := ⟨⟨by decide +kernel, by decide +kernel⟩, List.mem_of_getElem? (i := 12) (by decide +kernel), List.mem_of_getElem? (i := 131) (by decide +kernel), List.mem_of_getElem? (i := 132) (by decide +kernel)⟩
theorem lw_p4 : lw_okq (⟨"DoorBench", "lookAhead", "(I)I"⟩, 16) := ⟨⟨by decide +kernel, by decide +kernel⟩, List.mem_of_getElem? (i := 12) (by decide +kernel), List.mem_of_getElem? (i := 146) (by decide +kernel), List.mem_of_getElem? (i := 147) (by decide +kernel)⟩
theorem lw_p5 : lw_okq (⟨"DoorBench", "gatherChange", "(III)V"⟩, 16) := ⟨⟨by decide +kernel, by decide +kernel⟩, List.mem_of_getElem? (i := 12) (by decide +kernel), List.mem_of_getElem? (i := 157) (by decide +kernel), List.mem_of_getElem? (i := 158) (by decide +kernel)⟩
theorem lw_p6 : lw_okq (⟨"DoorBench", "leastNet", "(III)I"⟩, 16) := ⟨⟨by decide +kernel, by decide +kernel⟩, List.mem_of_getElem? (i := 12) (by decide +kernel), List.mem_of_getElem? (i := 161) (by decide +kernel), List.mem_of_getElem? (i := 162) (by decide +kernel)⟩
theorem lw_p7 : lw_okq (⟨"DoorBench", "leastPassed", "(III)I"⟩, 16) := ⟨⟨by decide +kernel, by decide +kernel⟩, List.mem_of_getElem? (i := 12) (by decide +kernel), List.mem_of_getElem? (i := 165) (by decide +kernel), List.mem_of_getElem? (i := 166) (by decide +kernel)⟩
theorem lw_p8 : lw_okq (⟨"DoorBench", "mostPassed", "(III)I"⟩, 16) := ⟨⟨by decide +kernel, by decide +kernel⟩, List.mem_of_getElem? (i := 12) (by decide +kernel), List.mem_of_getElem? (i := 172) (by decide +kernel), List.mem_of_getElem? (i := 173) (by decide +kernel)⟩
theorem lw_p9 : lw_okq (⟨"DoorBench", "mostNet", "(III)I"⟩, 16) := ⟨⟨by decide +kernel, by decide +kernel⟩, List.mem_of_getElem? (i := 12) (by decide +kernel), List.mem_of_getElem? (i := 176) (by decide +kernel), List.mem_of_getElem? (i := 177) (by decide +kernel)⟩
theorem lw_p10 : lw_okq (⟨"DoorBench", "addDoor", "(III)V"⟩, 16) := ⟨⟨by decide +kernel, by decide +kernel⟩, List.mem_of_getElem? (i := 12) (by decide +kernel), List.mem_of_getElem? (i := 180) (by decide +kernel), List.mem_of_getElem? (i := 181) (by decide +kernel)⟩
theorem lw_p11 : lw_okq (⟨"DoorBench", "keepAllowed", "(I)Z"⟩, 16) := ⟨⟨by decide +kernel, by decide +kernel⟩, List.mem_of_getElem? (i := 12) (by decide +kernel), List.mem_of_getElem? (i := 201) (by decide +kernel), List.mem_of_getElem? (i := 202) (by decide +kernel)⟩
theorem lw_p12 : lw_okq (⟨"DoorBench$Spans", "isSpan", "(II)Z"⟩, 2) := ⟨⟨by decide +kernel, by decide +kernel⟩, List.mem_of_getElem? (i := 20) (by decide +kernel), List.mem_of_getElem? (i := 219) (by decide +kernel), List.mem_of_getElem? (i := 220) (by decide +kernel)⟩
theorem lw_p13 : lw_okq (⟨"DoorBench", "firstAbove", "(IZ)I"⟩, 16) := ⟨⟨by decide +kernel, by decide +kernel⟩, List.mem_of_getElem? (i := 12) (by decide +kernel), List.mem_of_getElem? (i := 227) (by decide +kernel), List.mem_of_getElem? (i := 228) (by decide +kernel)⟩
theorem lw_p14 : lw_okq (⟨"DoorBench", "lookBackTo", "(I)V"⟩, 16) := ⟨⟨by decide +kernel, by decide +kernel⟩, List.mem_of_getElem? (i := 12) (by decide +kernel), List.mem_of_getElem? (i := 232) (by decide +kernel), List.mem_of_getElem? (i := 233) (by decide +kernel)⟩
theorem lw_p15 : lw_okq (⟨"DoorBench", "allToldRows", "()I"⟩, 16) := ⟨⟨by decide +kernel, by decide +kernel⟩, List.mem_of_getElem? (i := 12) (by decide +kernel), List.mem_of_getElem? (i := 258) (by decide +kernel), List.mem_of_getElem? (i := 259) (by decide +kernel)⟩
def lw_privs_1 : List (MethodName × Nat) := [(⟨"DoorBench", "beginDay", "(I)V"⟩, 16), (⟨"DoorBench", "isDoor", "(I)Z"⟩, 16), (⟨"DoorBench", "isTick", "(I)Z"⟩, 16), (⟨"DoorBench", "isTime", "(I)Z"⟩, 16), (⟨"DoorBench", "lookAhead", "(I)I"⟩, 16), (⟨"DoorBench", "gatherChange", "(III)V"⟩, 16), (⟨"DoorBench", "leastNet", "(III)I"⟩, 16), (⟨"DoorBench", "leastPassed", "(III)I"⟩, 16), (⟨"DoorBench", "mostPassed", "(III)I"⟩, 16), (⟨"DoorBench", "mostNet", "(III)I"⟩, 16), (⟨"DoorBench", "addDoor", "(III)V"⟩, 16), (⟨"DoorBench", "keepAllowed", "(I)Z"⟩, 16), (⟨"DoorBench$Spans", "isSpan", "(II)Z"⟩, 2), (⟨"DoorBench", "firstAbove", "(IZ)I"⟩, 16), (⟨"DoorBench", "lookBackTo", "(I)V"⟩, 16), (⟨"DoorBench", "allToldRows", "()I"⟩, 16)]
theorem lw_r1 : ∀ q ∈ lw_privs_1, lw_okq q := List.forall_mem_cons.mpr ⟨lw_p0, List.forall_mem_cons.mpr ⟨lw_p1, List.forall_mem_cons.mpr ⟨lw_p2, List.forall_mem_cons.mpr ⟨lw_p3, List.forall_mem_cons.mpr ⟨lw_p4, List.forall_mem_cons.mpr ⟨lw_p5, List.forall_mem_cons.mpr ⟨lw_p6, List.forall_mem_cons.mpr ⟨lw_p7, List.forall_mem_cons.mpr ⟨lw_p8, List.forall_mem_cons.mpr ⟨lw_p9, List.forall_mem_cons.mpr ⟨lw_p10, List.forall_mem_cons.mpr ⟨lw_p11, List.forall_mem_cons.mpr ⟨lw_p12, List.forall_mem_cons.mpr ⟨lw_p13, List.forall_mem_cons.mpr ⟨lw_p14, List.forall_mem_cons.mpr ⟨lw_p15, fun _ h => absurd h List.not_mem_nil⟩⟩⟩⟩⟩⟩⟩⟩⟩⟩⟩⟩⟩⟩⟩⟩
theorem lw_p16 : lw_okq (⟨"DoorBench", "toldRows", "(I)I"⟩, 16) := ⟨⟨by decide +kernel, by decide +kernel⟩, List.mem_of_getElem? (i := 12) (by decide +kernel), List.mem_of_getElem? (i := 262) (by decide +kernel), List.mem_of_getElem? (i := 263) (by decide +kernel)⟩
theorem lw_p17 : lw_okq (⟨"java/lang/Throwable", "fillInStackTrace", "(I)Ljava/lang/Throwable;"⟩, 6) := ⟨⟨by decide +kernel, by decide +kernel⟩, List.mem_of_getElem? (i := 312) (by decide +kernel), List.mem_of_getElem? (i := 310) (by decide +kernel), List.mem_of_getElem? (i := 311) (by decide +kernel)⟩
theorem lw_p18 : lw_okq (⟨"DoorBench", "mostThrough", "(II)I"⟩, 16) := ⟨⟨by decide +kernel, by decide +kernel⟩, List.mem_of_getElem? (i := 12) (by decide +kernel), List.mem_of_getElem? (i := 366) (by decide +kernel), List.mem_of_getElem? (i := 367) (by decide +kernel)⟩
theorem lw_p19 : lw_okq (⟨"DoorBench", "mostRest", "(II)I"⟩, 16) := ⟨⟨by decide +kernel, by decide +kernel⟩, List.mem_of_getElem? (i := 12) (by decide +kernel), List.mem_of_getElem? (i := 370) (by decide +kernel), List.mem_of_getElem? (i := 371) (by decide +kernel)⟩
theorem lw_p20 : lw_okq (⟨"DoorBench", "leastRest", "(II)I"⟩, 16) := ⟨⟨by decide +kernel, by decide +kernel⟩, List.mem_of_getElem? (i := 12) (by decide +kernel), List.mem_of_getElem? (i := 375) (by decide +kernel), List.mem_of_getElem? (i := 376) (by decide +kernel)⟩
theorem lw_p21 : lw_okq (⟨"DoorBench", "leastThrough", "(II)I"⟩, 16) := ⟨⟨by decide +kernel, by decide +kernel⟩, List.mem_of_getElem? (i := 12) (by decide +kernel), List.mem_of_getElem? (i := 379) (by decide +kernel), List.mem_of_getElem? (i := 380) (by decide +kernel)⟩
theorem lw_p22 : lw_okq (⟨"DoorBench", "toldSum", "([II)I"⟩, 16) := ⟨⟨by decide +kernel, by decide +kernel⟩, List.mem_of_getElem? (i := 12) (by decide +kernel), List.mem_of_getElem? (i := 391) (by decide +kernel), List.mem_of_getElem? (i := 392) (by decide +kernel)⟩
theorem lw_p23 : lw_okq (⟨"DoorBenchModel", "clear", "(I)V"⟩, 21) := ⟨⟨by decide +kernel, by decide +kernel⟩, List.mem_of_getElem? (i := 396) (by decide +kernel), List.mem_of_getElem? (i := 402) (by decide +kernel), List.mem_of_getElem? (i := 403) (by decide +kernel)⟩
theorem lw_p24 : lw_okq (⟨"DoorBenchModel", "isRow", "(II)Z"⟩, 21) := ⟨⟨by decide +kernel, by decide +kernel⟩, List.mem_of_getElem? (i := 396) (by decide +kernel), List.mem_of_getElem? (i := 486) (by decide +kernel), List.mem_of_getElem? (i := 487) (by decide +kernel)⟩
theorem lw_p25 : lw_okq (⟨"DoorBenchModel", "forward", "()I"⟩, 21) := ⟨⟨by decide +kernel, by decide +kernel⟩, List.mem_of_getElem? (i := 396) (by decide +kernel), List.mem_of_getElem? (i := 510) (by decide +kernel), List.mem_of_getElem? (i := 511) (by decide +kernel)⟩
theorem lw_p26 : lw_okq (⟨"DoorBenchModel", "holds", "([II)Z"⟩, 21) := ⟨⟨by decide +kernel, by decide +kernel⟩, List.mem_of_getElem? (i := 396) (by decide +kernel), List.mem_of_getElem? (i := 514) (by decide +kernel), List.mem_of_getElem? (i := 515) (by decide +kernel)⟩
theorem lw_p27 : lw_okq (⟨"DoorBenchModel", "close", "([II)Z"⟩, 21) := ⟨⟨by decide +kernel, by decide +kernel⟩, List.mem_of_getElem? (i := 396) (by decide +kernel), List.mem_of_getElem? (i := 524) (by decide +kernel), List.mem_of_getElem? (i := 525) (by decide +kernel)⟩
theorem lw_p28 : lw_okq (⟨"DoorBenchModel", "moves", "(II)V"⟩, 21) := ⟨⟨by decide +kernel, by decide +kernel⟩, List.mem_of_getElem? (i := 396) (by decide +kernel), List.mem_of_getElem? (i := 528) (by decide +kernel), List.mem_of_getElem? (i := 529) (by decide +kernel)⟩
theorem lw_p29 : lw_okq (⟨"DoorBenchModel", "netLow", "(II)I"⟩, 21) := ⟨⟨by decide +kernel, by decide +kernel⟩, List.mem_of_getElem? (i := 396) (by decide +kernel), List.mem_of_getElem? (i := 532) (by decide +kernel), List.mem_of_getElem? (i := 533) (by decide +kernel)⟩
theorem lw_p30 : lw_okq (⟨"DoorBenchModel", "least", "(II)I"⟩, 21) := ⟨⟨by decide +kernel, by decide +kernel⟩, List.mem_of_getElem? (i := 396) (by decide +kernel), List.mem_of_getElem? (i := 536) (by decide +kernel), List.mem_of_getElem? (i := 537) (by decide +kernel)⟩
theorem lw_p31 : lw_okq (⟨"DoorBenchModel", "most", "(II)I"⟩, 21) := ⟨⟨by decide +kernel, by decide +kernel⟩, List.mem_of_getElem? (i := 396) (by decide +kernel), List.mem_of_getElem? (i := 540) (by decide +kernel), List.mem_of_getElem? (i := 541) (by decide +kernel)⟩
def lw_privs_2 : List (MethodName × Nat) := [(⟨"DoorBench", "toldRows", "(I)I"⟩, 16), (⟨"java/lang/Throwable", "fillInStackTrace", "(I)Ljava/lang/Throwable;"⟩, 6), (⟨"DoorBench", "mostThrough", "(II)I"⟩, 16), (⟨"DoorBench", "mostRest", "(II)I"⟩, 16), (⟨"DoorBench", "leastRest", "(II)I"⟩, 16), (⟨"DoorBench", "leastThrough", "(II)I"⟩, 16), (⟨"DoorBench", "toldSum", "([II)I"⟩, 16), (⟨"DoorBenchModel", "clear", "(I)V"⟩, 21), (⟨"DoorBenchModel", "isRow", "(II)Z"⟩, 21), (⟨"DoorBenchModel", "forward", "()I"⟩, 21), (⟨"DoorBenchModel", "holds", "([II)Z"⟩, 21), (⟨"DoorBenchModel", "close", "([II)Z"⟩, 21), (⟨"DoorBenchModel", "moves", "(II)V"⟩, 21), (⟨"DoorBenchModel", "netLow", "(II)I"⟩, 21), (⟨"DoorBenchModel", "least", "(II)I"⟩, 21), (⟨"DoorBenchModel", "most", "(II)I"⟩, 21)]
theorem lw_r2 : ∀ q ∈ lw_privs_2, lw_okq q := List.forall_mem_cons.mpr ⟨lw_p16, List.forall_mem_cons.mpr ⟨lw_p17, List.forall_mem_cons.mpr ⟨lw_p18, List.forall_mem_cons.mpr ⟨lw_p19, List.forall_mem_cons.mpr ⟨lw_p20, List.forall_mem_cons.mpr ⟨lw_p21, List.forall_mem_cons.mpr ⟨lw_p22, List.forall_mem_cons.mpr ⟨lw_p23, List.forall_mem_cons.mpr ⟨lw_p24, List.forall_mem_cons.mpr ⟨lw_p25, List.forall_mem_cons.mpr ⟨lw_p26, List.forall_mem_cons.mpr ⟨lw_p27, List.forall_mem_cons.mpr ⟨lw_p28, List.forall_mem_cons.mpr ⟨lw_p29, List.forall_mem_cons.mpr ⟨lw_p30, List.forall_mem_cons.mpr ⟨lw_p31, fun _ h => absurd h List.not_mem_nil⟩⟩⟩⟩⟩⟩⟩⟩⟩⟩⟩⟩⟩⟩⟩⟩
theorem lw_p32 : lw_okq (⟨"DoorBenchModel", "netHigh", "(II)I"⟩, 21) := ⟨⟨by decide +kernel, by decide +kernel⟩, List.mem_of_getElem? (i := 396) (by decide +kernel), List.mem_of_getElem? (i := 544) (by decide +kernel), List.mem_of_getElem? (i := 545) (by decide +kernel)⟩
theorem lw_p33 : lw_okq (⟨"DoorBenchModel", "fails", "(I)I"⟩, 21) := ⟨⟨by decide +kernel, by decide +kernel⟩, List.mem_of_getElem? (i := 396) (by decide +kernel), List.mem_of_getElem? (i := 552) (by decide +kernel), List.mem_of_getElem? (i := 553) (by decide +kernel)⟩
theorem lw_p34 : lw_okq (⟨"DoorBenchModel", "work", "()Z"⟩, 21) := ⟨⟨by decide +kernel, by decide +kernel⟩, List.mem_of_getElem? (i := 396) (by decide +kernel), List.mem_of_getElem? (i := 556) (by decide +kernel), List.mem_of_getElem? (i := 557) (by decide +kernel)⟩
theorem lw_p35 : lw_okq (⟨"DoorBenchModel", "backward", "()V"⟩, 21) := ⟨⟨by decide +kernel, by decide +kernel⟩, List.mem_of_getElem? (i := 396) (by decide +kernel), List.mem_of_getElem? (i := 560) (by decide +kernel), List.mem_of_getElem? (i := 561) (by decide +kernel)⟩
theorem lw_p36 : lw_okq (⟨"DoorBenchModel", "above", "(II)I"⟩, 21) := ⟨⟨by decide +kernel, by decide +kernel⟩, List.mem_of_getElem? (i := 396) (by decide +kernel), List.mem_of_getElem? (i := 569) (by decide +kernel), List.mem_of_getElem? (i := 570) (by decide +kernel)⟩
def lw_privs_3 : List (MethodName × Nat) := [(⟨"DoorBenchModel", "netHigh", "(II)I"⟩, 21), (⟨"DoorBenchModel", "fails", "(I)I"⟩, 21), (⟨"DoorBenchModel", "work", "()Z"⟩, 21), (⟨"DoorBenchModel", "backward", "()V"⟩, 21), (⟨"DoorBenchModel", "above", "(II)I"⟩, 21)]
theorem lw_r3 : ∀ q ∈ lw_privs_3, lw_okq q := List.forall_mem_cons.mpr ⟨lw_p32, List.forall_mem_cons.mpr ⟨lw_p33, List.forall_mem_cons.mpr ⟨lw_p34, List.forall_mem_cons.mpr ⟨lw_p35, List.forall_mem_cons.mpr ⟨lw_p36, fun _ h => absurd h List.not_mem_nil⟩⟩⟩⟩⟩
def lw_privs : List (MethodName × Nat) := lw_privs_1 ++ (lw_privs_2 ++ (lw_privs_3))
def lw_tbl : List Cond := k2_sels lw_privs ++ tables_1
theorem lw_privs_ok : ∀ q ∈ lw_privs, lw_okq q := by
  show ∀ q ∈ lw_privs_1 ++ (lw_privs_2 ++ (lw_privs_3)), lw_okq q
  exact List.forall_mem_append.mpr ⟨lw_r1, List.forall_mem_append.mpr ⟨lw_r2, lw_r3⟩⟩
/-! ===== BEGIN words of one list among another's, by their places ===== -/
theorem goodIn_r {big : List Cond} (ws : List Cond) (ps : List Nat) (hp : ws = ps.filterMap (fun i => big[i]?)) (h : ws.all goodWord = true) : GoodIn big ws := by
  intro w hw
  have h1 := List.all_eq_true.mp h w hw
  rw [hp] at hw
  obtain ⟨i, -, hi⟩ := List.mem_filterMap.mp hw
  have hm : w ∈ big := by first | exact List.mem_of_getElem? hi | exact List.getElem?_mem hi
  exact ⟨hm, good_of_word h1⟩
theorem goodIn_app {big a b : List Cond} (ha : GoodIn big a) (hb : GoodIn big b) : GoodIn big (a ++ b) := fun w h => (List.mem_append.mp h).elim (ha w) (hb w)
theorem goodIn_ca {big a b : List Cond} {c : Cond} (ha : GoodIn big (c :: a)) (hb : GoodIn big b) : GoodIn big (c :: (a ++ b)) := fun w h => (List.mem_cons.mp h).elim (fun e => ha w (List.mem_cons.mpr (Or.inl e))) (fun h => (List.mem_append.mp h).elim (fun h => ha w (List.mem_cons.mpr (Or.inr h))) (hb w))
theorem goodIn_sub {big ws : List Cond} (hm : ∀ w ∈ ws, w ∈ big) (h : ws.all goodWord = true) : GoodIn big ws := fun w hw => ⟨hm w hw, good_of_word (List.all_eq_true.mp h w hw)⟩
/-! ===== END ===== -/

/-! ===== BEGIN exceptions that leave a method, and their catching by the caller (launches without stack traces) ===== -/
section VXA
/-! The laws vx_back, vx_callV, vx_callS, vx_callSW, vx_throw0, vx_throwS follow proofs of the library, with one case more: JvmDerived/Free/Laws.lean (Back.of_free), Shelf42/LK1.lean (callV, callS), Shelf/KitTraced.lean (throwNew0V, throwNewS). -/
/-- where a method has thrown q: the class by its name, the cell, what was written, the world -/
def vx_T (XC : String → State → State → Prop) (st : State) (q : Addr) (t : State) (mc ms : Nat) (free : Addr → Prop) : Prop :=
  ∃ (E : String) (ce : Cell) (L : List Loc), XC E st t ∧ t.heap[q]? = some ce ∧ ce.vm = .none ∧ st.vm.findClass E = some ce.cls ∧ st.WarmedH t.vm ∧ st.sameButNew ({ t with vm := st.vm } : State) L mc ms ∧ ∀ z ∈ L, free z.base
def vx_Q (Qc : Array Value → State → Outcome → State → Prop) (XC : String → State → State → Prop) (mc ms : Nat) (free : Addr → Prop) : Array Value → State → Outcome → State → Prop := fun a st o t =>
  (Qc a st o t ∧ ∃ L, FrameEnd st o t L mc ms ∧ ∀ q ∈ L, free q.base) ∨ ∃ q, o = .threw q ∧ vx_T XC st q t mc ms free
/-- a callee that returns or throws -/
def vx_Met (l : Launch) (y : MethodName) (ws : List Cond) (rm : Room) (Pc : Array Value → State → Prop) (Qc : Array Value → State → Outcome → State → Prop) (XC : String → State → State → Prop) (mc ms : Nat) (free : Addr → Prop) : Prop :=
  MetFree l y (headSpec ws rm) Pc (fun _ _ _ _ _ => True) (vx_Q Qc XC mc ms free)
def vx_Post (XC : String → State → State → Prop) (mc ms : Nat) (free : Addr → Prop) : Pt → Array Value → Addr → Pt → Prop := fun A a q B =>
  ∃ (g : JFrame) (mk : MethodId) (t : State) (L : List Loc) (E : String) (ce : Cell), B.U.heap = t.heap ∧ B.U.vm = t.vm ∧ XC E (A.U.calling g mk a) t ∧ t.heap[q]? = some ce ∧ ce.vm = .none ∧ A.U.vm.findClass E = some ce.cls ∧ B.locs = A.locs ++ L ∧ (∀ z ∈ L, free z.base) ∧ B.cells = A.cells + mc ∧ B.slots = A.slots + ms
def vx_Back (l : Launch) (R : Room) (p : Program) (e : Env) (below : List Frame) (s : State) (sargs : Array Value) (y : MethodName) (len W9 : Nat)
    (Pre : Pt → Array Value → Prop) (Post : Pt → Array Value → Option Value → Pt → Prop) (PostX : Pt → Array Value → Addr → Pt → Prop) : Prop :=
  ∀ (m : MethodId) (meth : Method) (c : Code) (A : Pt) (g : JFrame) (ig : Instr) (mk : MethodId) (a : Array Value),
    Stand p l e R s m sargs below meth c A.U A.locs A.cells A.slots → g.method = m → g.locals.size = c.maxLocals → decode c.code g.pc = .ok (ig, len) →
    2 * g.monitorRoom + (g.stack.map fun v => v.category).sum ≤ W9 → A.U.methodNamed? y = some mk → Pre A a →
    (∃ (v : Option Value) (B : Pt), Stand p l e R s m sargs below meth c B.U B.locs B.cells B.slots ∧ Post A a v B ∧
      Steps p.tables e below (doInvoke e (A.U.setTop g) [] mk a).1 (B.U.setTop { g with pc := g.pc + len, stack := v.toList ++ g.stack })) ∨
    (∃ (q : Addr) (B : Pt), Stand p l e R s m sargs below meth c B.U B.locs B.cells B.slots ∧ PostX A a q B ∧
      Steps p.tables e below (doInvoke e (A.U.setTop g) [] mk a).1 ((B.U.setTop g).pushFrame (.throwing q)))
section Payer
variable {l : Launch} {R : Room} {p : Program} {e : Env} {below : List Frame} {s : State} {sargs : Array Value} {y : MethodName} {len W9 : Nat}
theorem vx_back {ws : List Cond} {rm : Room} {Pc : Array Value → State → Prop} {Qc : Array Value → State → Outcome → State → Prop} {XC : String → State → State → Prop} {mc ms : Nat} {free : Addr → Prop} {bytes : ByteArray} {maxL : Nat} {ret : Option FieldType}
    (hM : vx_Met l y ws rm Pc Qc XC mc ms free) (hblind : FrameBlind Pc) (hrc : rm.cells = mc) (hrs : rm.slots = ms)
    (hframes : rm.frames + 1 ≤ R.frames) (hlocals : W9 + (maxL + 11) + rm.locals ≤ R.locals)
    (hws : ∀ w ∈ ws, ∀ a' U, s.WarmedH U.vm → w.before a' U = true) (hcode : Cond.code y bytes maxL ret ∈ ws) (hinit : ∀ a' U, s.WarmedH U.vm → (Cond.initialized y.cls).before a' U = true) :
    vx_Back l R p e below s sargs y len W9 (PreOf R mc ms Pc) (PostOf Qc mc ms free) (vx_Post XC mc ms free) := by
  intro m meth c A g ig mk a X hg hsize hdg hW hn hp
  have h1 : (headSpec ws rm).pre.before a A.U = true := atoms_intro fun w hw => hws w hw _ _ X.warmed
  have h2 : (Cond.code y bytes maxL ret).before a A.U = true := hws _ hcode _ _ X.warmed
  have h3 : (Cond.initialized y.cls).before a A.U = true := hinit _ _ X.warmed
  have h4 : A.cells + (headSpec ws rm).room.cells ≤ R.cells := by rw [show (headSpec ws rm).room.cells = mc from hrc]; exact hp.1
  have h5 : A.slots + (headSpec ws rm).room.slots ≤ R.slots := by rw [show (headSpec ws rm).room.slots = ms from hrs]; exact hp.2.1
  have hPc : Pc a (A.U.calling g mk a) := hblind _ _ _ _ hp.2.2
  obtain ⟨U, Ls, c0, s0⟩ := A
  dsimp only [Pt.U, Pt.locs, Pt.cells, Pt.slots] at h1 h2 h3 h4 h5 X hn hPc ⊢
  obtain ⟨methY, cY, hmY, hcY, -, hlY, -, -, -, -⟩ := Cond.code_spec hn h2
  obtain ⟨kY, hkY, -⟩ := className_of_methodNamed hn
  have hinitY : kY.init = .initialized := Cond.initialized_spec (findClass_of_methodNamed hn) hkY h3
  have h : At U g.method c below := by rw [hg]; exact X.here
  have hlocals9 : W9 + (maxL + 11) + (headSpec ws rm).room.locals ≤ R.locals := hlocals
  have happ : (headSpec ws rm).appliesLoose y e.platform (U.calling g mk a) = true :=
    Spec.appliesLoose_calling (g := g) h hdg hn hkY hinitY
      (X.room_calling (g := g) (R' := (headSpec ws rm).room) hsize hmY hcY hframes (by rw [hlY]; omega) h4 h5) h1
  obtain ⟨mid, hmid⟩ := h.above
  have hfr : (U.setTop g).frames = (.java g :: mid) ++ below := by rw [State.frames_setTop' g h.top, hmid]; rfl
  obtain ⟨o, s₂, hsteps, -, hend, hq⟩ := Steps.callFree hM p X.admits X.cas X.clock (acts := []) hfr happ hPc trivial
  have hq' : vx_Q Qc XC mc ms free a (U.calling g mk a) o s₂ := hq
  rw [State.frames_setTop' g h.top] at hend
  obtain ⟨g₀, hg0⟩ := Option.isSome_iff_exists.mp h.top
  obtain ⟨r, hr⟩ := State.topJava?_eq_some.mp hg0
  have hr' : (({ U with heap := s₂.heap, slotsUsed := s₂.slotsUsed } : State).setVm s₂.vm).frames = .java g₀ :: r := hr
  rcases hq' with ⟨hqc, L, hfe, hL⟩ | ⟨q, rfl, E, ce, L, hx, hce, hcv, hcl, hW₂, hsm, hL⟩
  · obtain ⟨⟨v, rfl⟩, hW₂, e2, q2, q3, q4, q5, q6⟩ := id hfe
    have e3 : s₂ = ({ (U.calling g mk a).setFrames s₂.frames with heap := s₂.heap, slotsUsed := s₂.slotsUsed } : State).setVm s₂.vm := by
      have : s₂ = ({ s₂ with vm := (U.calling g mk a).vm } : State).setVm s₂.vm := rfl
      rw [e2] at this
      exact this
    obtain ⟨c₂, i₂, len₂, hc₂, hd₂, hf₂⟩ := hend
    have hW' : U.WarmedH s₂.vm := hW₂
    have hcc : c₂ = c := by
      have h1 : s₂.code? g.method = U.code? g.method := by
        rw [State.code?_eq, State.code?_eq, hW'.alike.method?]
      exact Option.some.inj (hc₂.symm.trans (h1.trans h.code))
    subst hcc
    have hlen : len₂ = len := by rw [hdg] at hd₂; cases hd₂; rfl
    subst hlen
    have hs₂ : s₂ = (({ U with heap := s₂.heap, slotsUsed := s₂.slotsUsed } : State).setVm s₂.vm).setTop { g with pc := g.pc + len₂, stack := v.toList ++ g.stack } := by
      refine e3.trans ?_
      rw [hf₂, State.calling_eq h.top, State.setFrames_setFrames, State.setTop_of_frames _ hr', hr]
      rfl
    have hsame : U.sameButNew ({ U with heap := s₂.heap, slotsUsed := s₂.slotsUsed } : State) L mc ms := by
      refine ⟨?_, q2, q3, q4, q5, q6⟩
      obtain ⟨t, ht, -⟩ := State.frames_cons hr
      show ({ U with heap := s₂.heap, slotsUsed := s₂.slotsUsed } : State) = { U.setFrames U.frames with heap := s₂.heap, slotsUsed := s₂.slotsUsed }
      rw [State.setFrames_self ht]
    subst hg
    refine Or.inl ⟨v, ⟨(({ U with heap := s₂.heap, slotsUsed := s₂.slotsUsed } : State).setVm s₂.vm), Ls ++ L, c0 + mc, s0 + ms⟩,
      ⟨X.admits, X.cas, X.clock, X.frames, X.room, X.hears, X.method, X.code, (X.here.setHeapUsed s₂.heap s₂.slotsUsed).setVm hW'.alike, X.tail, State.WarmedH.trans X.warmed hW', X.limits, X.bytes, X.same.trans (hsame.setVm s.vm)⟩,
      ⟨g, mk, s₂, L, rfl, rfl, hqc, rfl, hL, rfl, rfl⟩, ?_⟩
    show Steps p.tables e below _ ((({ U with heap := s₂.heap, slotsUsed := s₂.slotsUsed } : State).setVm s₂.vm).setTop { g with pc := g.pc + len₂, stack := v.toList ++ g.stack })
    rw [← hs₂]
    exact hsteps
  · obtain ⟨e2, q2, q3, q4, q5, q6⟩ := id hsm
    have e3 : s₂ = ({ (U.calling g mk a).setFrames s₂.frames with heap := s₂.heap, slotsUsed := s₂.slotsUsed } : State).setVm s₂.vm := by
      have : s₂ = ({ s₂ with vm := (U.calling g mk a).vm } : State).setVm s₂.vm := rfl
      rw [e2] at this
      exact this
    have hf₂ : s₂.frames = .throwing q :: .java g :: U.frames.tail := hend
    have hW' : U.WarmedH s₂.vm := hW₂
    have hs₂ : s₂ = ((({ U with heap := s₂.heap, slotsUsed := s₂.slotsUsed } : State).setVm s₂.vm).setTop g).pushFrame (.throwing q) := by
      refine e3.trans ?_
      rw [hf₂, State.calling_eq h.top, State.setFrames_setFrames, State.pushFrame, State.frames_setTop _ hr', State.setTop_of_frames _ hr', State.setFrames_setFrames, hr]
      rfl
    have hsame : U.sameButNew ({ U with heap := s₂.heap, slotsUsed := s₂.slotsUsed } : State) L mc ms := by
      refine ⟨?_, q2, q3, q4, q5, q6⟩
      obtain ⟨t, ht, -⟩ := State.frames_cons hr
      show ({ U with heap := s₂.heap, slotsUsed := s₂.slotsUsed } : State) = { U.setFrames U.frames with heap := s₂.heap, slotsUsed := s₂.slotsUsed }
      rw [State.setFrames_self ht]
    subst hg
    refine Or.inr ⟨q, ⟨(({ U with heap := s₂.heap, slotsUsed := s₂.slotsUsed } : State).setVm s₂.vm), Ls ++ L, c0 + mc, s0 + ms⟩,
      ⟨X.admits, X.cas, X.clock, X.frames, X.room, X.hears, X.method, X.code, (X.here.setHeapUsed s₂.heap s₂.slotsUsed).setVm hW'.alike, X.tail, State.WarmedH.trans X.warmed hW', X.limits, X.bytes, X.same.trans (hsame.setVm s.vm)⟩,
      ⟨g, mk, s₂, L, E, ce, rfl, rfl, hx, hce, hcv, hcl, rfl, hL, rfl, rfl⟩, ?_⟩
    show Steps p.tables e below _ (((({ U with heap := s₂.heap, slotsUsed := s₂.slotsUsed } : State).setVm s₂.vm).setTop g).pushFrame (.throwing q))
    rw [← hs₂]
    exact hsteps
end Payer
section Calls
variable {p : Program} {l : Launch} {e : Env} {R : Room} {s : State} {m : MethodId} {args : Array Value} {below : List Frame} {meth : Method} {c : Code} {T : State} {locs : List Loc} {cells slots : Nat}
theorem vx_callV (X : Stand p l e R s m args below meth c T locs cells slots) (hexec : p.tables.exec = Jvm.exec) {own C : String} {index : Nat} {y : MethodName} {bytes : ByteArray} {maxL : Nat} {ret : Option FieldType}
    (hown : s.vm.findClass own = some m.cls) (hlink : (Cond.methodLink own index y).before args s = true) (hinst : (Cond.instanceMethod y).before args s = true) (hsel : (Cond.selects C y y).before args s = true)
    (hcode : (Cond.code y bytes maxL ret).before args s = true) (hy : y.cls ≠ "java/lang/invoke/MethodHandle" ∧ y.cls ≠ "java/lang/invoke/VarHandle")
    {W9 : Nat} {Pre : Pt → Array Value → Prop} {Post : Pt → Array Value → Option Value → Pt → Prop} {PostX : Pt → Array Value → Addr → Pt → Prop} (hK : vx_Back l R p e below s args y 3 W9 Pre Post PostX)
    {b : Addr} {cellB : Cell} (hcell : T.heap[b]? = some cellB) (hobj : cellB.vm.isStatics = false) (hcls : s.vm.findClass C = some cellB.cls)
    {g : JFrame} (hg : g.method = m) (hsize : g.locals.size = c.maxLocals) {argsL rest : List Value} (hlen : ∀ sig, parseMethodDescriptor y.desc = some sig → argsL.length = sig.parameters.length)
    (hstack : g.stack = argsL.reverse ++ .ref b :: rest) (hW : 2 * g.monitorRoom + (rest.map fun v => v.category).sum ≤ W9) (hdg : decode c.code g.pc = .ok (.invokevirtual index, 3))
    (hpre : ∀ vm₁, s.WarmedH vm₁ → Pre ⟨T.setVm vm₁, locs, cells, slots⟩ (Value.ref b :: argsL).toArray) :
    (∃ (v : Option Value) (vm₁ : Vm) (B : Pt), s.WarmedH vm₁ ∧ Stand p l e R s m args below meth c B.U B.locs B.cells B.slots ∧ Post ⟨T.setVm vm₁, locs, cells, slots⟩ (Value.ref b :: argsL).toArray v B ∧
      ∀ target, Steps p.tables e below (B.U.setTop { g with pc := g.pc + 3, stack := v.toList ++ rest }) target → Steps p.tables e below (T.setTop g) target) ∨
    (∃ (q : Addr) (vm₁ : Vm) (B : Pt), s.WarmedH vm₁ ∧ Stand p l e R s m args below meth c B.U B.locs B.cells B.slots ∧ PostX ⟨T.setVm vm₁, locs, cells, slots⟩ (Value.ref b :: argsL).toArray q B ∧
      Steps p.tables e below (T.setTop g) ((B.U.setTop { g with stack := rest }).pushFrame (.throwing q))) := by
  obtain ⟨mk, methM, hnamed, hmethM, hstM, habM⟩ := Cond.instanceMethod_spec hinst
  obtain ⟨methM', cM, hmethM', -, -, -, -, -, -, hsigM⟩ := Cond.code_spec hnamed hcode
  cases hmethM.symm.trans hmethM'
  obtain ⟨c2, r2, m2, q1, q2, q3, q4, kP, hkP, hkPi⟩ := Cond.selects_spec hsel
  cases hcls.symm.trans q1
  cases (State.methodFound?_of_named hnamed hy).symm.trans q2
  cases hnamed.symm.trans q3
  have hselP : selectMethod e.platform s.vm cellB.cls mk = .method mk := by rw [Launch.admits_selectMethod X.admits]; exact q4
  obtain ⟨vm₁, X₁, hstep₁⟩ := X.invokevirtual hexec hown hlink hnamed hmethM hstM hkP hkPi hy (a := b) (cell := cellB) hcell
    (fun z h => by rw [h] at hobj; cases hobj) hselP hmethM habM hkP hkPi (g := g) hg (argsL := argsL) (rest := rest) (hlen _ hsigM) hstack hdg
  rcases hK m meth c ⟨T.setVm vm₁, locs, cells, slots⟩ { g with stack := rest } (.invokevirtual index) mk (Value.ref b :: argsL).toArray X₁ hg hsize hdg hW (X₁.named hnamed) (hpre vm₁ X₁.warmed) with ⟨v, B, X', hpost, hsteps⟩ | ⟨q, B, X', hpost, hsteps⟩
  · exact Or.inl ⟨v, vm₁, B, X₁.warmed, X', hpost, fun target h => hstep₁ _ fun acts => by rw [doInvoke_state]; exact hsteps.trans h⟩
  · exact Or.inr ⟨q, vm₁, B, X₁.warmed, X', hpost, hstep₁ _ fun acts => by rw [doInvoke_state]; exact hsteps⟩
theorem vx_callS (X : Stand p l e R s m args below meth c T locs cells slots) (hexec : p.tables.exec = Jvm.exec) {own : String} {index : Nat} {y : MethodName} {bytes : ByteArray} {maxL : Nat} {ret : Option FieldType}
    (hown : s.vm.findClass own = some m.cls) (hlink : (Cond.methodLink own index y).before args s = true) (hstat : (Cond.static y).before args s = true) (hinit : (Cond.initialized y.cls).before args s = true)
    (hcode : (Cond.code y bytes maxL ret).before args s = true) (hy : y.cls ≠ "java/lang/invoke/MethodHandle" ∧ y.cls ≠ "java/lang/invoke/VarHandle")
    {W9 : Nat} {Pre : Pt → Array Value → Prop} {Post : Pt → Array Value → Option Value → Pt → Prop} {PostX : Pt → Array Value → Addr → Pt → Prop} (hK : vx_Back l R p e below s args y 3 W9 Pre Post PostX)
    {g : JFrame} (hg : g.method = m) (hsize : g.locals.size = c.maxLocals) {argsL rest : List Value} (hlen : ∀ sig, parseMethodDescriptor y.desc = some sig → argsL.length = sig.parameters.length)
    (hstack : g.stack = argsL.reverse ++ rest) (hW : 2 * g.monitorRoom + (rest.map fun v => v.category).sum ≤ W9) (hdg : decode c.code g.pc = .ok (.invokestatic index, 3))
    (hpre : ∀ vm₁, s.WarmedH vm₁ → Pre ⟨T.setVm vm₁, locs, cells, slots⟩ argsL.toArray) :
    (∃ (v : Option Value) (vm₁ : Vm) (B : Pt), s.WarmedH vm₁ ∧ Stand p l e R s m args below meth c B.U B.locs B.cells B.slots ∧ Post ⟨T.setVm vm₁, locs, cells, slots⟩ argsL.toArray v B ∧
      ∀ target, Steps p.tables e below (B.U.setTop { g with pc := g.pc + 3, stack := v.toList ++ rest }) target → Steps p.tables e below (T.setTop g) target) ∨
    (∃ (q : Addr) (vm₁ : Vm) (B : Pt), s.WarmedH vm₁ ∧ Stand p l e R s m args below meth c B.U B.locs B.cells B.slots ∧ PostX ⟨T.setVm vm₁, locs, cells, slots⟩ argsL.toArray q B ∧
      Steps p.tables e below (T.setTop g) ((B.U.setTop { g with stack := rest }).pushFrame (.throwing q))) := by
  obtain ⟨mk, hnamed⟩ := Cond.code_named hcode
  obtain ⟨methM, cM, hmethM, -, -, -, -, -, -, hsigM⟩ := Cond.code_spec hnamed hcode
  have hstatic : methM.isStatic = true := Cond.static_spec hnamed hmethM hstat
  obtain ⟨kP, hkP, -⟩ := className_of_methodNamed hnamed
  have hinitP : kP.init = .initialized := Cond.initialized_spec (findClass_of_methodNamed hnamed) hkP hinit
  obtain ⟨vm₁, X₁, hstep₁⟩ := X.invokestatic hexec hown hlink hnamed hmethM hstatic hkP hinitP hy (g := g) hg (argsL := argsL) (rest := rest) (hlen _ hsigM) hstack hdg
  rcases hK m meth c ⟨T.setVm vm₁, locs, cells, slots⟩ { g with stack := rest } (.invokestatic index) mk argsL.toArray X₁ hg hsize hdg hW (X₁.named hnamed) (hpre vm₁ X₁.warmed) with ⟨v, B, X', hpost, hsteps⟩ | ⟨q, B, X', hpost, hsteps⟩
  · exact Or.inl ⟨v, vm₁, B, X₁.warmed, X', hpost, fun target h => hstep₁ _ fun acts => by rw [doInvoke_state]; exact hsteps.trans h⟩
  · exact Or.inr ⟨q, vm₁, B, X₁.warmed, X', hpost, hstep₁ _ fun acts => by rw [doInvoke_state]; exact hsteps⟩
end Calls
theorem vx_cls {s : State} {T : State} {vm₁ : Vm} {E : String} {k : ClassId} (hW : s.WarmedH vm₁) (h : (T.setVm vm₁).vm.findClass E = some k) : s.vm.findClass E = some k := by
  have h1 : vm₁.findClass E = some k := h
  rw [hW.alike.findClass] at h1
  exact h1
/-- the method's frame g, with q thrown over it -/
def vx_W (p : Program) (l : Launch) (e : Env) (R : Room) (s : State) (m : MethodId) (args : Array Value) (below : List Frame) (meth : Method) (c : Code) (H : Heap) (locs : List Loc) (cells slots : Nat) (Q : State → Prop) (g : JFrame) (q : Addr) : Prop :=
  ∀ T : State, T.heap = H → Stand p l e R s m args below meth c T locs cells slots → ∃ t, Steps p.tables e below ((T.setTop g).pushFrame (.throwing q)) t ∧ Q t
def vx_Run (p : Program) (l : Launch) (e : Env) (R : Room) (s : State) (m : MethodId) (args : Array Value) (below : List Frame) (meth : Method) (c : Code) (H : Heap) (locs : List Loc) (cells slots mc ms : Nat) (g : JFrame) (rest : List Value) (Qa : State → Outcome → State → Prop) (XC : String → State → State → Prop) (free : Addr → Prop) : Prop :=
  ∀ T : State, T.heap = H → Stand p l e R s m args below meth c T locs cells slots →
    (∃ (v : Option Value) (st₀ t T' : State) (L : List Loc), st₀.heap = H ∧ Stand p l e R s m args below meth c T' (locs ++ L) (cells + mc) (slots + ms) ∧ (∀ q ∈ L, free q.base) ∧ T'.heap = t.heap ∧ T'.vm = t.vm ∧ Qa st₀ (.returned v) t ∧
      Goes p e below T g T' { g with pc := g.pc + 3, stack := v.toList ++ rest }) ∨
    (∃ (q : Addr) (st₀ t T' : State) (L : List Loc) (E : String) (ce : Cell), st₀.heap = H ∧ Stand p l e R s m args below meth c T' (locs ++ L) (cells + mc) (slots + ms) ∧ (∀ z ∈ L, free z.base) ∧ T'.heap = t.heap ∧ T'.vm = t.vm ∧ XC E st₀ t ∧ t.heap[q]? = some ce ∧ ce.vm = .none ∧ s.vm.findClass E = some ce.cls ∧
      Steps p.tables e below (T.setTop g) ((T'.setTop { g with stack := rest }).pushFrame (.throwing q)))
def vx_X {S : Type} (px : S → Prop) (B : String → S → State → Prop) (A : Nat → Prop) : String → State → State → Prop := fun E st t => ∃ u : S, px u ∧ B E u t ∧ va_F A st t
section Runs
variable {p : Program} {l : Launch} {e : Env} {R : Room} {s : State} {m : MethodId} {args : Array Value} {below : List Frame} {meth : Method} {c : Code} {H : Heap} {locs : List Loc} {cells slots : Nat}
variable {y : MethodName} {bytes cc : ByteArray} {maxL nL mc ms n index : Nat} {ret : Option FieldType} {ws : List Cond} {rm : Room} {Pc : Array Value → State → Prop} {Qc : Array Value → State → Outcome → State → Prop} {XC : String → State → State → Prop} {free : Addr → Prop} {Ts : List Cond} {own C : String} {b : Addr} {As rest : List Value} {g : JFrame}
theorem vx_callBack (cb : CallB R s args own index y bytes maxL ret ws rm mc ms n) (hM : vx_Met l y ws rm Pc Qc XC mc ms free) (hbl : FrameBlind Pc) : vx_Back l R p e below s args y 3 8 (PreOf R mc ms Pc) (PostOf Qc mc ms free) (vx_Post XC mc ms free) := by
  obtain ⟨hrc, hrs, hfr, hlo, hws, hcw, -, hini, -⟩ := cb
  exact vx_back (bytes := bytes) (maxL := maxL) (ret := ret) hM hbl hrc hrs hfr hlo hws hcw (fun a' U hW => word_at hW (Or.inl (by first | rfl | simp [Cond.onTables, Cond.keeps, Cond.steady])) hini)
theorem vx_runV (S : CallFix p m c cc nL s args Ts own) (hM : vx_Met l y ws rm Pc Qc XC mc ms free) (cw : CallW R s args own C index y bytes maxL ret ws rm mc ms n) (hp : PreV s H C b Pc As)
    (hg : g.method = m) (hn : As.length = n) (hsize : g.locals.size = nL) (hstack : g.stack = As.reverse ++ .ref b :: rest) (hW : 2 * g.monitorRoom + (rest.map fun v => v.category).sum ≤ 8) (hdg : decode cc g.pc = .ok (.invokevirtual index, 3)) (hf : cells + mc ≤ R.cells ∧ slots + ms ≤ R.slots) :
    vx_Run p l e R s m args below meth c H locs cells slots mc ms g rest (Qc (Value.ref b :: As).toArray) XC free := by
  have hK : vx_Back l R p e below s args y 3 8 (PreOf R mc ms Pc) (PostOf Qc mc ms free) (vx_Post XC mc ms free) := vx_callBack cw.1 hM hp.1
  obtain ⟨⟨-, -, -, -, -, -, hcode, -, hy, hlen, hl⟩, hin, hse⟩ := cw
  obtain ⟨hx, hb, hml, ho, -⟩ := S
  obtain ⟨-, ⟨cellB, hcB, hoB, hclB⟩, hPc⟩ := hp
  intro T hT X
  rcases vx_callV X hx (C := C) (bytes := bytes) (maxL := maxL) (ret := ret) ho hl hin hse hcode hy hK (by rw [hT]; exact hcB) hoB hclB hg (hsize.trans hml.symm) (argsL := As) (rest := rest) (fun sig h => hn.trans (hlen sig h)) hstack hW (by rw [hb]; exact hdg)
    (fun vm₁ hW₁ => ⟨hf.1, hf.2, hPc (T.setVm vm₁) hT hW₁⟩) with ⟨v, vm₁, ⟨U', l2, c2, s2⟩, hW₁, X', ⟨g', mk, t, L, e1, e2, hq, h1, hL, h2, h3⟩, st⟩ | ⟨q, vm₁, ⟨U', l2, c2, s2⟩, hW₁, X', ⟨g', mk, t, L, E, ce, e1, e2, hq, hce, hcv, hcl, h1, hL, h2, h3⟩, st⟩
  · dsimp only [Pt.U, Pt.locs, Pt.cells, Pt.slots] at X' e1 e2 h1 h2 h3 st
    subst h1; subst h2; subst h3
    exact Or.inl ⟨v, (T.setVm vm₁).calling g' mk (Value.ref b :: As).toArray, t, U', L, hT, X', hL, e1, e2, hq, st⟩
  · dsimp only [Pt.U, Pt.locs, Pt.cells, Pt.slots] at X' e1 e2 h1 h2 h3 st hcl
    subst h1; subst h2; subst h3
    exact Or.inr ⟨q, (T.setVm vm₁).calling g' mk (Value.ref b :: As).toArray, t, U', L, E, ce, hT, X', hL, e1, e2, hq, hce, hcv, vx_cls hW₁ hcl, st⟩
theorem vx_runS (S : CallFix p m c cc nL s args Ts own) (hM : vx_Met l y ws rm Pc Qc XC mc ms free) (cw : CallB R s args own index y bytes maxL ret ws rm mc ms n ∧ (Cond.static y).before args s = true) (hp : PreS s H Pc As)
    (hg : g.method = m) (hn : As.length = n) (hsize : g.locals.size = nL) (hstack : g.stack = As.reverse ++ rest) (hW : 2 * g.monitorRoom + (rest.map fun v => v.category).sum ≤ 8) (hdg : decode cc g.pc = .ok (.invokestatic index, 3)) (hf : cells + mc ≤ R.cells ∧ slots + ms ≤ R.slots) :
    vx_Run p l e R s m args below meth c H locs cells slots mc ms g rest (Qc As.toArray) XC free := by
  have hK : vx_Back l R p e below s args y 3 8 (PreOf R mc ms Pc) (PostOf Qc mc ms free) (vx_Post XC mc ms free) := vx_callBack cw.1 hM hp.1
  obtain ⟨⟨-, -, -, -, -, -, hcode, hini, hy, hlen, hl⟩, hstt⟩ := cw
  obtain ⟨hx, hb, hml, ho, -⟩ := S
  intro T hT X
  rcases vx_callS X hx (bytes := bytes) (maxL := maxL) (ret := ret) ho hl hstt hini hcode hy hK hg (hsize.trans hml.symm) (argsL := As) (rest := rest) (fun sig h => hn.trans (hlen sig h)) hstack hW (by rw [hb]; exact hdg)
    (fun vm₁ hW₁ => ⟨hf.1, hf.2, hp.2 (T.setVm vm₁) hT hW₁⟩) with ⟨v, vm₁, ⟨U', l2, c2, s2⟩, hW₁, X', ⟨g', mk, t, L, e1, e2, hq, h1, hL, h2, h3⟩, st⟩ | ⟨q, vm₁, ⟨U', l2, c2, s2⟩, hW₁, X', ⟨g', mk, t, L, E, ce, e1, e2, hq, hce, hcv, hcl, h1, hL, h2, h3⟩, st⟩
  · dsimp only [Pt.U, Pt.locs, Pt.cells, Pt.slots] at X' e1 e2 h1 h2 h3 st
    subst h1; subst h2; subst h3
    exact Or.inl ⟨v, (T.setVm vm₁).calling g' mk As.toArray, t, U', L, hT, X', hL, e1, e2, hq, st⟩
  · dsimp only [Pt.U, Pt.locs, Pt.cells, Pt.slots] at X' e1 e2 h1 h2 h3 st hcl
    subst h1; subst h2; subst h3
    exact Or.inr ⟨q, (T.setVm vm₁).calling g' mk As.toArray, t, U', L, E, ce, hT, X', hL, e1, e2, hq, hce, hcv, vx_cls hW₁ hcl, st⟩
end Runs
section Rows
variable {p : Program} {l : Launch} {e : Env} {R : Room} {s : State} {m : MethodId} {args : Array Value} {below : List Frame} {meth : Method} {c : Code} {H : Heap} {locs : List Loc} {cells slots : Nat} {Q : State → Prop}
variable {mc ms : Nat} {free : Addr → Prop} {A0 A1 : Nat → Prop} {H0 : Heap} {a : Array Value} {pc : Nat} {ls : Array Slot} {st0 rest : List Value}
theorem vx_keep {st₀ t T' : State} {L : List Loc} (h0 : st₀.heap = H) (e1 : T'.heap = t.heap) (hS : va_S A0 H0 H locs) (hA : ∀ q, q < H.size → A1 q → A0 q) (hf : ∀ q, free q → A0 q) (hL : ∀ q ∈ L, free q.base) (hF : va_F A1 st₀ t) :
    H.size ≤ T'.heap.size ∧ (∀ q : Nat, q < H.size → ¬ A1 q → T'.heap[q]? = H[q]?) ∧ va_S A0 H0 T'.heap (locs ++ L) := by
  obtain ⟨hz, hk⟩ := hF
  rw [h0] at hz hk
  exact ⟨by rw [e1]; exact hz, fun q h1 h2 => by rw [e1]; exact hk q h1 h2,
    ⟨Nat.le_trans hS.1 (by rw [e1]; exact hz), fun q h1 h2 => by rw [e1, hk q (Nat.lt_of_lt_of_le h1 hS.1) (fun z => h2 (hA q (Nat.lt_of_lt_of_le h1 hS.1) z))]; exact hS.2.1 q h1 h2, fun q hq => by
      rcases List.mem_append.mp hq with h | h
      · exact hS.2.2 q h
      · exact hf _ (hL q h)⟩⟩
theorem vx_calli {S SX : Type} {post : Int32 → S → Prop} {px : SX → Prop} {B : S → State → Prop} {BX : String → SX → State → Prop} {AX : Nat → Prop} (hr : vx_Run p l e R s m args below meth c H locs cells slots mc ms (F0 m pc ls st0) rest (va_Qi post B A1 a) (vx_X px BX AX) free) (hS : va_S A0 H0 H locs) (hA : ∀ q, q < H.size → A1 q → A0 q) (hf : ∀ q, free q → A0 q) (hAX : ∀ q, q < H.size → AX q → A0 q)
    (kx : ∀ (E : String) (ce : Cell) (q9 : Addr) (u : SX) (t : State) (H1 : Heap) (locs1 : List Loc), t.heap = H1 → s.vm.Alike t.vm → px u → BX E u t → H.size ≤ H1.size → (∀ q : Nat, q < H.size → ¬ AX q → H1[q]? = H[q]?) → va_S A0 H0 H1 locs1 → H1[q9]? = some ce → ce.vm = .none → s.vm.findClass E = some ce.cls → vx_W p l e R s m args below meth c H1 locs1 (cells + mc) (slots + ms) Q (F0 m pc ls rest) q9)
    (kk : ∀ (r : Int32) (u : S) (t : State) (H1 : Heap) (locs1 : List Loc), t.heap = H1 → s.vm.Alike t.vm → post r u → B u t → H.size ≤ H1.size → (∀ q : Nat, q < H.size → ¬ A1 q → H1[q]? = H[q]?) → va_S A0 H0 H1 locs1 → W p l e R s m args below meth c H1 locs1 (cells + mc) (slots + ms) Q (F0 m (pc + 3) ls (.int r :: rest))) : W p l e R s m args below meth c H locs cells slots Q (F0 m pc ls st0) := by
  intro T hT X
  rcases hr T hT X with ⟨v, st₀, t, T', L, h0, X', hL, e1, e2, ⟨⟨r, u, hv, hp, hb⟩, hF⟩, st⟩ | ⟨q, st₀, t, T', L, E, ce, h0, X', hL, e1, e2, ⟨u, hp, hb, hF⟩, hce, hcv, hcl, st⟩
  · cases hv
    obtain ⟨k1, k2, k3⟩ := vx_keep h0 e1 hS hA hf hL hF
    obtain ⟨t2, a1, b1⟩ := kk r u t T'.heap (locs ++ L) e1.symm (by rw [← e2]; exact X'.warmed.alike) hp hb k1 k2 k3 T' rfl X'
    exact ⟨t2, st t2 a1, b1⟩
  · obtain ⟨k1, k2, k3⟩ := vx_keep h0 e1 hS hAX hf hL hF
    obtain ⟨t2, a1, b1⟩ := kx E ce q u t T'.heap (locs ++ L) e1.symm (by rw [← e2]; exact X'.warmed.alike) hp hb k1 k2 k3 (by rw [e1]; exact hce) hcv hcl T' rfl X'
    exact ⟨t2, st.trans a1, b1⟩
theorem vx_calll {S SX : Type} {post : Int64 → S → Prop} {px : SX → Prop} {B : S → State → Prop} {BX : String → SX → State → Prop} {AX : Nat → Prop} (hr : vx_Run p l e R s m args below meth c H locs cells slots mc ms (F0 m pc ls st0) rest (va_Ql post B A1 a) (vx_X px BX AX) free) (hS : va_S A0 H0 H locs) (hA : ∀ q, q < H.size → A1 q → A0 q) (hf : ∀ q, free q → A0 q) (hAX : ∀ q, q < H.size → AX q → A0 q)
    (kx : ∀ (E : String) (ce : Cell) (q9 : Addr) (u : SX) (t : State) (H1 : Heap) (locs1 : List Loc), t.heap = H1 → s.vm.Alike t.vm → px u → BX E u t → H.size ≤ H1.size → (∀ q : Nat, q < H.size → ¬ AX q → H1[q]? = H[q]?) → va_S A0 H0 H1 locs1 → H1[q9]? = some ce → ce.vm = .none → s.vm.findClass E = some ce.cls → vx_W p l e R s m args below meth c H1 locs1 (cells + mc) (slots + ms) Q (F0 m pc ls rest) q9)
    (kk : ∀ (r : Int64) (u : S) (t : State) (H1 : Heap) (locs1 : List Loc), t.heap = H1 → s.vm.Alike t.vm → post r u → B u t → H.size ≤ H1.size → (∀ q : Nat, q < H.size → ¬ A1 q → H1[q]? = H[q]?) → va_S A0 H0 H1 locs1 → W p l e R s m args below meth c H1 locs1 (cells + mc) (slots + ms) Q (F0 m (pc + 3) ls (.long r :: rest))) : W p l e R s m args below meth c H locs cells slots Q (F0 m pc ls st0) := by
  intro T hT X
  rcases hr T hT X with ⟨v, st₀, t, T', L, h0, X', hL, e1, e2, ⟨⟨r, u, hv, hp, hb⟩, hF⟩, st⟩ | ⟨q, st₀, t, T', L, E, ce, h0, X', hL, e1, e2, ⟨u, hp, hb, hF⟩, hce, hcv, hcl, st⟩
  · cases hv
    obtain ⟨k1, k2, k3⟩ := vx_keep h0 e1 hS hA hf hL hF
    obtain ⟨t2, a1, b1⟩ := kk r u t T'.heap (locs ++ L) e1.symm (by rw [← e2]; exact X'.warmed.alike) hp hb k1 k2 k3 T' rfl X'
    exact ⟨t2, st t2 a1, b1⟩
  · obtain ⟨k1, k2, k3⟩ := vx_keep h0 e1 hS hAX hf hL hF
    obtain ⟨t2, a1, b1⟩ := kx E ce q u t T'.heap (locs ++ L) e1.symm (by rw [← e2]; exact X'.warmed.alike) hp hb k1 k2 k3 (by rw [e1]; exact hce) hcv hcl T' rfl X'
    exact ⟨t2, st.trans a1, b1⟩
theorem vx_callf {S SX : Type} {post : UInt32 → S → Prop} {px : SX → Prop} {B : S → State → Prop} {BX : String → SX → State → Prop} {AX : Nat → Prop} (hr : vx_Run p l e R s m args below meth c H locs cells slots mc ms (F0 m pc ls st0) rest (va_Qf post B A1 a) (vx_X px BX AX) free) (hS : va_S A0 H0 H locs) (hA : ∀ q, q < H.size → A1 q → A0 q) (hf : ∀ q, free q → A0 q) (hAX : ∀ q, q < H.size → AX q → A0 q)
    (kx : ∀ (E : String) (ce : Cell) (q9 : Addr) (u : SX) (t : State) (H1 : Heap) (locs1 : List Loc), t.heap = H1 → s.vm.Alike t.vm → px u → BX E u t → H.size ≤ H1.size → (∀ q : Nat, q < H.size → ¬ AX q → H1[q]? = H[q]?) → va_S A0 H0 H1 locs1 → H1[q9]? = some ce → ce.vm = .none → s.vm.findClass E = some ce.cls → vx_W p l e R s m args below meth c H1 locs1 (cells + mc) (slots + ms) Q (F0 m pc ls rest) q9)
    (kk : ∀ (r : UInt32) (u : S) (t : State) (H1 : Heap) (locs1 : List Loc), t.heap = H1 → s.vm.Alike t.vm → post r u → B u t → H.size ≤ H1.size → (∀ q : Nat, q < H.size → ¬ A1 q → H1[q]? = H[q]?) → va_S A0 H0 H1 locs1 → W p l e R s m args below meth c H1 locs1 (cells + mc) (slots + ms) Q (F0 m (pc + 3) ls (.float r :: rest))) : W p l e R s m args below meth c H locs cells slots Q (F0 m pc ls st0) := by
  intro T hT X
  rcases hr T hT X with ⟨v, st₀, t, T', L, h0, X', hL, e1, e2, ⟨⟨r, u, hv, hp, hb⟩, hF⟩, st⟩ | ⟨q, st₀, t, T', L, E, ce, h0, X', hL, e1, e2, ⟨u, hp, hb, hF⟩, hce, hcv, hcl, st⟩
  · cases hv
    obtain ⟨k1, k2, k3⟩ := vx_keep h0 e1 hS hA hf hL hF
    obtain ⟨t2, a1, b1⟩ := kk r u t T'.heap (locs ++ L) e1.symm (by rw [← e2]; exact X'.warmed.alike) hp hb k1 k2 k3 T' rfl X'
    exact ⟨t2, st t2 a1, b1⟩
  · obtain ⟨k1, k2, k3⟩ := vx_keep h0 e1 hS hAX hf hL hF
    obtain ⟨t2, a1, b1⟩ := kx E ce q u t T'.heap (locs ++ L) e1.symm (by rw [← e2]; exact X'.warmed.alike) hp hb k1 k2 k3 (by rw [e1]; exact hce) hcv hcl T' rfl X'
    exact ⟨t2, st.trans a1, b1⟩
theorem vx_calld {S SX : Type} {post : UInt64 → S → Prop} {px : SX → Prop} {B : S → State → Prop} {BX : String → SX → State → Prop} {AX : Nat → Prop} (hr : vx_Run p l e R s m args below meth c H locs cells slots mc ms (F0 m pc ls st0) rest (va_Qd post B A1 a) (vx_X px BX AX) free) (hS : va_S A0 H0 H locs) (hA : ∀ q, q < H.size → A1 q → A0 q) (hf : ∀ q, free q → A0 q) (hAX : ∀ q, q < H.size → AX q → A0 q)
    (kx : ∀ (E : String) (ce : Cell) (q9 : Addr) (u : SX) (t : State) (H1 : Heap) (locs1 : List Loc), t.heap = H1 → s.vm.Alike t.vm → px u → BX E u t → H.size ≤ H1.size → (∀ q : Nat, q < H.size → ¬ AX q → H1[q]? = H[q]?) → va_S A0 H0 H1 locs1 → H1[q9]? = some ce → ce.vm = .none → s.vm.findClass E = some ce.cls → vx_W p l e R s m args below meth c H1 locs1 (cells + mc) (slots + ms) Q (F0 m pc ls rest) q9)
    (kk : ∀ (r : UInt64) (u : S) (t : State) (H1 : Heap) (locs1 : List Loc), t.heap = H1 → s.vm.Alike t.vm → post r u → B u t → H.size ≤ H1.size → (∀ q : Nat, q < H.size → ¬ A1 q → H1[q]? = H[q]?) → va_S A0 H0 H1 locs1 → W p l e R s m args below meth c H1 locs1 (cells + mc) (slots + ms) Q (F0 m (pc + 3) ls (.double r :: rest))) : W p l e R s m args below meth c H locs cells slots Q (F0 m pc ls st0) := by
  intro T hT X
  rcases hr T hT X with ⟨v, st₀, t, T', L, h0, X', hL, e1, e2, ⟨⟨r, u, hv, hp, hb⟩, hF⟩, st⟩ | ⟨q, st₀, t, T', L, E, ce, h0, X', hL, e1, e2, ⟨u, hp, hb, hF⟩, hce, hcv, hcl, st⟩
  · cases hv
    obtain ⟨k1, k2, k3⟩ := vx_keep h0 e1 hS hA hf hL hF
    obtain ⟨t2, a1, b1⟩ := kk r u t T'.heap (locs ++ L) e1.symm (by rw [← e2]; exact X'.warmed.alike) hp hb k1 k2 k3 T' rfl X'
    exact ⟨t2, st t2 a1, b1⟩
  · obtain ⟨k1, k2, k3⟩ := vx_keep h0 e1 hS hAX hf hL hF
    obtain ⟨t2, a1, b1⟩ := kx E ce q u t T'.heap (locs ++ L) e1.symm (by rw [← e2]; exact X'.warmed.alike) hp hb k1 k2 k3 (by rw [e1]; exact hce) hcv hcl T' rfl X'
    exact ⟨t2, st.trans a1, b1⟩
theorem vx_callv {S SX : Type} {post : S → Prop} {px : SX → Prop} {B : S → State → Prop} {BX : String → SX → State → Prop} {AX : Nat → Prop} (hr : vx_Run p l e R s m args below meth c H locs cells slots mc ms (F0 m pc ls st0) rest (va_Qv post B A1 a) (vx_X px BX AX) free) (hS : va_S A0 H0 H locs) (hA : ∀ q, q < H.size → A1 q → A0 q) (hf : ∀ q, free q → A0 q) (hAX : ∀ q, q < H.size → AX q → A0 q)
    (kx : ∀ (E : String) (ce : Cell) (q9 : Addr) (u : SX) (t : State) (H1 : Heap) (locs1 : List Loc), t.heap = H1 → s.vm.Alike t.vm → px u → BX E u t → H.size ≤ H1.size → (∀ q : Nat, q < H.size → ¬ AX q → H1[q]? = H[q]?) → va_S A0 H0 H1 locs1 → H1[q9]? = some ce → ce.vm = .none → s.vm.findClass E = some ce.cls → vx_W p l e R s m args below meth c H1 locs1 (cells + mc) (slots + ms) Q (F0 m pc ls rest) q9)
    (kk : ∀ (u : S) (t : State) (H1 : Heap) (locs1 : List Loc), t.heap = H1 → s.vm.Alike t.vm → post u → B u t → H.size ≤ H1.size → (∀ q : Nat, q < H.size → ¬ A1 q → H1[q]? = H[q]?) → va_S A0 H0 H1 locs1 → W p l e R s m args below meth c H1 locs1 (cells + mc) (slots + ms) Q (F0 m (pc + 3) ls (rest))) : W p l e R s m args below meth c H locs cells slots Q (F0 m pc ls st0) := by
  intro T hT X
  rcases hr T hT X with ⟨v, st₀, t, T', L, h0, X', hL, e1, e2, ⟨⟨u, hv, hp, hb⟩, hF⟩, st⟩ | ⟨q, st₀, t, T', L, E, ce, h0, X', hL, e1, e2, ⟨u, hp, hb, hF⟩, hce, hcv, hcl, st⟩
  · cases hv
    obtain ⟨k1, k2, k3⟩ := vx_keep h0 e1 hS hA hf hL hF
    obtain ⟨t2, a1, b1⟩ := kk u t T'.heap (locs ++ L) e1.symm (by rw [← e2]; exact X'.warmed.alike) hp hb k1 k2 k3 T' rfl X'
    exact ⟨t2, st t2 a1, b1⟩
  · obtain ⟨k1, k2, k3⟩ := vx_keep h0 e1 hS hAX hf hL hF
    obtain ⟨t2, a1, b1⟩ := kx E ce q u t T'.heap (locs ++ L) e1.symm (by rw [← e2]; exact X'.warmed.alike) hp hb k1 k2 k3 (by rw [e1]; exact hce) hcv hcl T' rfl X'
    exact ⟨t2, st.trans a1, b1⟩
/-- caught by the row x of this method's table; the rows ahead don't take it -/
theorem vx_catch {own name : String} {E : String} {ce : Cell} {q : Addr} (hown : s.vm.findClass own = some m.cls) (pre : List ExceptionTableEntry) (x : ExceptionTableEntry) (suf : List ExceptionTableEntry) (hsplit : c.exceptionTable.toList = pre ++ x :: suf)
    (hpass : ∀ z ∈ pre, covers z pc = false ∨ (z.catchType ≠ 0 ∧ ∃ nm : String, (Cond.classLink own z.catchType nm).before args s = true ∧ va_Nc E nm s)) (hx : covers x pc = true) (h0 : x.catchType ≠ 0)
    (hlink : (Cond.classLink own x.catchType name).before args s = true) (hcast : (Cond.castable E name).before args s = true) (hcell : H[q]? = some ce) (hv : ce.vm = .none) (hcl : s.vm.findClass E = some ce.cls)
    (kk : W p l e R s m args below meth c H locs cells slots Q (F0 m x.handlerPc ls [.ref q])) : vx_W p l e R s m args below meth c H locs cells slots Q (F0 m pc ls rest) q := by
  intro T hT X
  have hpl : e.platform.magicAccessors = ({} : Platform).magicAccessors := by rw [X.admits.platform]
  obtain ⟨c3, c4, hc3, hc4, hasg⟩ := Cond.castable_spec hcast
  cases Option.some.inj (hc3.symm.trans hcl)
  obtain ⟨c5, hc5, hcl5⟩ := Cond.classLink_spec hown hlink e.platform hpl
  cases Option.some.inj (hc4.symm.trans hc5)
  obtain ⟨vm', X', st⟩ := Stand.thenCaughtThrough X q (g := F0 m pc ls rest) rfl (Steps.refl _) (by rw [hT]; exact hcell) (by rw [hv]; rfl) (by obtain ⟨k9, h9, -⟩ := Vm.findClass_spec hcl; exact ⟨k9, h9⟩) pre x suf hsplit
    (fun z hz => by
      rcases hpass z hz with h | ⟨hz0, nm, hl1, hn1⟩
      · exact Or.inl h
      · obtain ⟨c6, hc6, hcl6⟩ := Cond.classLink_spec hown hl1 e.platform hpl
        obtain ⟨a8, b8, h1, h2, h3⟩ := hn1
        cases Option.some.inj (h1.symm.trans hcl)
        cases Option.some.inj (h2.symm.trans hc6)
        exact Or.inr ⟨hz0, _, hcl6, h3⟩) hx (Or.inr ⟨h0, c4, hcl5, hasg⟩)
  obtain ⟨t, a1, b1⟩ := kk (T.setVm vm') hT X'
  exact ⟨t, st.trans a1, b1⟩
end Rows
section Ends
variable {p : Program} {l : Launch} {e : Env} {R : Room} {s : State} {m : MethodId} {args : Array Value} {below : List Frame} {meth : Method} {c : Code} {H : Heap} {locs : List Loc} {cells slots : Nat} {Q : State → Prop}
variable {mc ms : Nat} {free : Addr → Prop} {A0 A1 : Nat → Prop} {H0 : Heap} {a : Array Value} {ls : Array Slot} {st0 rest : List Value}
variable {Qc : Array Value → State → Outcome → State → Prop} {XC : String → State → State → Prop}
/-- what a body that may throw owes at its end -/
def vx_MQ (below : List Frame) (Qc : Array Value → State → Outcome → State → Prop) (XC : String → State → State → Prop) (a : Array Value) (s : State) (mc ms : Nat) (free : Addr → Prop) : State → Prop := fun t =>
  ∃ o, t.status = .running ∧ Ended t below o ∧ vx_Q Qc XC mc ms free a s o t
theorem vx_ret {g : JFrame} {mc ms : Nat} (k : W p l e R s m args below meth c H locs cells slots (MQ below Qc args s mc ms free) g) : W p l e R s m args below meth c H locs cells slots (vx_MQ below Qc XC args s mc ms free) g := by
  intro T hT X
  obtain ⟨t, a1, o, b1, b2, b3, b4⟩ := k T hT X
  exact ⟨t, a1, o, b1, b2, Or.inl ⟨b3, b4⟩⟩
/-- not caught here: it goes on to the caller -/
theorem vx_widen {g : JFrame} {q : Addr} {k n : Nat} (h1 : cells ≤ k) (h2 : slots ≤ n) (kk : vx_W p l e R s m args below meth c H locs k n Q g q) : vx_W p l e R s m args below meth c H locs cells slots Q g q := fun T hT X => kk T hT (stand_widen X h1 h2)
theorem vx_out {pc : Nat} {E : String} {ce : Cell} {q : Addr} {mc ms : Nat} (hout : ∀ x ∈ c.exceptionTable.toList, covers x pc = false) (hlocks : meth.locks = false) (hcell : H[q]? = some ce) (hv : ce.vm = .none) (hcl : s.vm.findClass E = some ce.cls)
    (hx : ∀ t : State, t.heap = H → s.vm.Alike t.vm → XC E s t) (hf : ∀ z ∈ locs, free z.base) (hc : cells ≤ mc) (hs : slots ≤ ms) :
    vx_W p l e R s m args below meth c H locs cells slots (vx_MQ below Qc XC args s mc ms free) (F0 m pc ls rest) q := by
  intro T hT X
  obtain ⟨st1, hrun, hend, hW, hsm⟩ := X.leaveThrown q (g := F0 m pc ls rest) rfl rfl rfl hout hlocks
  have hcell9 : (T.setFrames (.throwing q :: below)).heap[q]? = some ce := by
    show T.heap[q]? = some ce
    rw [hT]; exact hcell
  exact ⟨_, st1, .threw q, hrun, hend, Or.inr ⟨q, rfl, E, ce, locs, hx _ hT hW.alike, hcell9, hv, hcl, hW, hsm.mono hc hs, hf⟩⟩
theorem vx_frame {U : State} {k n : Nat} (h : s.sameButNew ({ U with vm := s.vm } : State) locs k n) : s.heap.size ≤ U.heap.size ∧ ∀ q : Nat, q < s.heap.size → (∀ z ∈ locs, z.base ≠ q) → U.heap[q]? = s.heap[q]? := by
  obtain ⟨-, h2, -, -, -, h6⟩ := h
  refine ⟨h2, fun q hq hz => ?_⟩
  obtain ⟨c9, e1, e2, e3, e4⟩ := h6 q _ (Array.getElem?_eq_getElem hq)
  have hs : c9.slots = (s.heap[q]).slots := Array.ext_getElem? fun i => e4 i fun hm => hz _ hm rfl
  have h9 : c9 = s.heap[q] := by
    rw [hs] at e2
    exact e2
  have e5 : U.heap[q]? = some c9 := e1
  rw [e5, h9, Array.getElem?_eq_getElem hq]
/-- the words of a throw but the four that speak of the heap -/
def vx_no (w : Cond) : Bool := decide (w ≠ .isRef (.static Bundle.tN "UNASSIGNED_STACK" Bundle.steD)) && decide (w ≠ .isRef (.static Bundle.tN "SUPPRESSED_SENTINEL" Bundle.listD)) && decide (w ≠ .laysStatic Bundle.tN "UNASSIGNED_STACK" Bundle.steD) && decide (w ≠ .laysStatic Bundle.tN "SUPPRESSED_SENTINEL" Bundle.listD)
def vx_at0 (own : String) (ic : Nat) (X : String) (names : List String) : List Cond := (Bundle.ownAtoms0 own ic X names).filter vx_no
def vx_atS (own : String) (ic : Nat) (X : String) (names : List String) : List Cond := (Bundle.ownAtoms own ic X names).filter vx_no
/-- a word that the tables alone decide, or a good one -/
def vx_ot (w : Cond) : Bool := w.onTables || goodWord w
theorem vx_ot_at {args a' : Array Value} {s U : State} {w : Cond} (hW : s.WarmedH U.vm) (hvm : s.vm = U.vm) (hg : vx_ot w = true) (h : w.before args s = true) : w.before a' U = true := by
  simp only [vx_ot, Bool.or_eq_true] at hg
  rcases hg with hg | hg
  · exact va_tabs hg hvm h
  · exact word_at hW (good_of_word hg) h
/-- a list's words: the good ones out of the method's own list, the others by premises of their own -/
theorem vx_hat {args : Array Value} {s : State} {L B : List Cond} (h1 : ∀ w ∈ L.filter goodWord, w.before args s = true) (h2 : ∀ w ∈ L.filter (fun w => !goodWord w), w ∈ B) (h3 : ∀ w ∈ B, w.before args s = true) : ∀ w ∈ L, w.before args s = true := by
  intro w hw
  by_cases g : goodWord w = true
  · exact h1 w (List.mem_filter.mpr ⟨hw, g⟩)
  · refine h3 w (h2 w (List.mem_filter.mpr ⟨hw, ?_⟩))
    show (!goodWord w) = true
    cases hgw : goodWord w
    · rfl
    · exact absurd hgw g
theorem vx_c {args : Array Value} {s : State} {w : Cond} {B : List Cond} (h : w.before args s = true) (t : ∀ w ∈ B, w.before args s = true) : ∀ w' ∈ w :: B, w'.before args s = true := fun w' h' => (List.mem_cons.mp h').elim (fun e => by rw [e]; exact h) (t w')
theorem vx_n {args : Array Value} {s : State} : ∀ w ∈ ([] : List Cond), w.before args s = true := fun _ h => nomatch h
theorem vx_own {args : Array Value} {s : State} {L : List Cond} (h1 : ∀ w ∈ L.filter vx_no, w.before args s = true)
    (hU : (Cond.isRef (.static Bundle.tN "UNASSIGNED_STACK" Bundle.steD)).before args s = true) (hN : (Cond.isRef (.static Bundle.tN "SUPPRESSED_SENTINEL" Bundle.listD)).before args s = true)
    (lU : (Cond.laysStatic Bundle.tN "UNASSIGNED_STACK" Bundle.steD).before args s = true) (lN : (Cond.laysStatic Bundle.tN "SUPPRESSED_SENTINEL" Bundle.listD).before args s = true) : ∀ w ∈ L, w.before args s = true := by
  intro w hw
  by_cases e1 : w = .isRef (.static Bundle.tN "UNASSIGNED_STACK" Bundle.steD)
  · rw [e1]; exact hU
  · by_cases e2 : w = .isRef (.static Bundle.tN "SUPPRESSED_SENTINEL" Bundle.listD)
    · rw [e2]; exact hN
    · by_cases e3 : w = .laysStatic Bundle.tN "UNASSIGNED_STACK" Bundle.steD
      · rw [e3]; exact lU
      · by_cases e4 : w = .laysStatic Bundle.tN "SUPPRESSED_SENTINEL" Bundle.listD
        · rw [e4]; exact lN
        · exact h1 w (List.mem_filter.mpr ⟨hw, by unfold vx_no; rw [decide_eq_true e1, decide_eq_true e2, decide_eq_true e3, decide_eq_true e4]; rfl⟩)
/-- where a static field lies, its class's statics cell in H -/
def vx_L (C n d : String) (A : Nat → Prop) (U : State) (H : Heap) : Prop := ∃ (c : ClassId) (k : Class) (i : Nat) (f : Field) (a : Nat) (cell : Cell), U.vm.findClass C = some c ∧ U.fieldFound? C n d = some (c, k, i, f) ∧ f.isStatic = true ∧ k.statics = some a ∧ H[a]? = some cell ∧ cell.vm.isStatics = true ∧ cell.cls = c ∧ f.slot < cell.slots.size ∧ k.staticTypes[f.slot]? = some f.type ∧ ¬ A a
theorem vx_L.moved {C n d : String} {A : Nat → Prop} {u U : State} {H : Heap} (hvm : u.vm.Alike U.vm) (h : vx_L C n d A u H) : vx_L C n d A U H := by
  obtain ⟨c, k, i, f, a, cell, h1, h2, h3, h4, h5, h6, h7, h8, h9, h10⟩ := h
  obtain ⟨k', hi', he⟩ := State.fieldFound?_setVm hvm h2
  exact ⟨c, k', i, f, a, cell, by rw [hvm.findClass]; exact h1, hi', h3, by rw [he]; exact h4, h5, h6, h7, h8, by rw [he]; exact h9, h10⟩
theorem vx_L.kept {C n d : String} {A : Nat → Prop} {U : State} {H H1 : Heap} (h : vx_L C n d A U H) (hq : ∀ a : Nat, a < H.size → ¬ A a → H1[a]? = H[a]?) : vx_L C n d A U H1 := by
  obtain ⟨c, k, i, f, a, cell, h1, h2, h3, h4, h5, h6, h7, h8, h9, h10⟩ := h
  exact ⟨c, k, i, f, a, cell, h1, h2, h3, h4, by rw [hq a (Array.getElem?_eq_some_iff.mp h5).1 h10]; exact h5, h6, h7, h8, h9, h10⟩
theorem vx_L.narrow {C n d : String} {A B : Nat → Prop} {U : State} {H : Heap} (h : vx_L C n d A U H) (hAB : ∀ q, B q → A q) : vx_L C n d B U H := by
  obtain ⟨c, k, i, f, a, cell, h1, h2, h3, h4, h5, h6, h7, h8, h9, h10⟩ := h
  exact ⟨c, k, i, f, a, cell, h1, h2, h3, h4, h5, h6, h7, h8, h9, fun z => h10 (hAB _ z)⟩
theorem vx_L.word {C n d : String} {A : Nat → Prop} {s : State} {args : Array Value} (h : vx_L C n d A s s.heap) : (Cond.laysStatic C n d).before args s = true := by
  obtain ⟨c, k, i, f, a, cell, h1, h2, h3, h4, h5, h6, h7, h8, h9, -⟩ := h
  show (Cond.laysStatic C n d).holds args s none s [] = true
  exact Cond.laysStatic_of h1 h2 h3 h4 h5 h6 h7 h8 h9
/-- .. and what it holds: null or some reference -/
def vx_Zq (C n d : String) (A : Nat → Prop) (U : State) (H : Heap) : Prop := va_Zq C n d A U H ∧ vx_L C n d A U H
theorem vx_Zq.moved {C n d : String} {A : Nat → Prop} {u U : State} {H : Heap} (hvm : u.vm.Alike U.vm) (h : vx_Zq C n d A u H) : vx_Zq C n d A U H := ⟨va_Zq.moved hvm h.1, vx_L.moved hvm h.2⟩
theorem vx_Zq.kept {C n d : String} {A : Nat → Prop} {U : State} {H H1 : Heap} (h : vx_Zq C n d A U H) (hq : ∀ a : Nat, a < H.size → ¬ A a → H1[a]? = H[a]?) : vx_Zq C n d A U H1 := ⟨va_Zq.kept h.1 hq, vx_L.kept h.2 hq⟩
theorem vx_Zq.narrow {C n d : String} {A B : Nat → Prop} {U : State} {H : Heap} (h : vx_Zq C n d A U H) (hAB : ∀ q, B q → A q) : vx_Zq C n d B U H := ⟨va_Zq.narrow h.1 hAB, vx_L.narrow h.2 hAB⟩
theorem vx_Zqof {args : Array Value} {s : State} {C n d : String} {A : Nat → Prop} (hl : (Cond.laysStatic C n d).before args s = true) (hini : (Cond.initialized C).before args s = true) (h : (Cond.isRef (.static C n d)).before args s = true) (hA : ∀ a : Nat, a < s.heap.size → ¬ A a) : vx_Zq C n d A s s.heap := by
  refine ⟨va_Zqof hl hini h hA, ?_⟩
  obtain ⟨c, k, i, f, a, cell, h1, h2, h3, h4, h5, h6, h7, h8, h9⟩ := Cond.laysStatic_spec hl
  exact ⟨c, k, i, f, a, cell, h1, h2, h3, h4, h5, h6, h7, h8, h9, hA a (Array.getElem?_eq_some_iff.mp h5).1⟩
theorem vx_isRef {C n d : String} {v : Value} {A : Nat → Prop} {s : State} {args : Array Value} (h : va_Z C n d v A s s.heap) (hv : v.isRef = true) : (Cond.isRef (.static C n d)).before args s = true := by
  obtain ⟨cf, kf, fi, f, a, cell, h1, h2, h3, h4, h5, h6, h7, -⟩ := h
  have he : (Term.static C n d).eval args s none [] s = some v := by
    simp [Term.eval, State.fieldNamed?, h1, h2, h4, h5, h6, h7]
  simp only [Cond.before, Cond.holds, Cond.value, he]
  cases v <;> simp_all [Value.isRef]
theorem vx_isRefq {C n d : String} {A : Nat → Prop} {s : State} {args : Array Value} (h : va_Zq C n d A s s.heap) : (Cond.isRef (.static C n d)).before args s = true := by
  rcases h with h | ⟨t, h⟩
  · exact vx_isRef h rfl
  · exact vx_isRef h rfl
/-- the same frame, seen from here: as if the method were called anew in this heap -/
theorem vx_rebase {T : State} (X : Stand p l e R s m args below meth c T locs cells slots) {R' : Room} (hf : R'.frames ≤ R.frames) (hl : R'.locals ≤ R.locals) (hc : cells + R'.cells ≤ R.cells) (hs : slots + R'.slots ≤ R.slots) :
    Stand p l e R' ((T.setVm s.vm).setFrames (.invoking m args :: below)) m args below meth c T [] 0 0 := by
  have htop : (T.setVm s.vm).topJava?.isSome := X.here.top
  have hF : ((T.setVm s.vm).setFrames (.invoking m args :: below)).frames = .invoking m args :: below := State.frames_setFrames _ (State.cur_lt_of_top htop)
  obtain ⟨g₀, hg0⟩ := Option.isSome_iff_exists.mp htop
  obtain ⟨r, hr⟩ := State.topJava?_eq_some.mp hg0
  have hl9 : e.platform.stackLimits (T.setVm s.vm).me = e.platform.stackLimits s.me := X.limits
  have hb9 : (T.setVm s.vm).me.stackBytes = s.me.stackBytes := X.bytes
  refine ⟨X.admits, X.cas, X.clock, hF, ?_, X.hears, X.method, X.code, X.here, X.tail, X.warmed, ?_, ?_, ?_⟩
  · have h := X.room
    have hU : ((T.setVm s.vm).setFrames (.invoking m args :: below)).localsInUse = s.localsInUse := by
      rw [State.localsInUse_invoking hF (meth := meth) (c := c) X.method X.code, State.localsInUse_invoking X.frames X.method X.code]
    simp only [State.hasRoom, Bool.and_eq_true, decide_eq_true_eq] at h ⊢
    obtain ⟨⟨⟨⟨h1, h2, h3, h4, h5, h6⟩, h7⟩, h8⟩, h9⟩ := h
    rw [X.frames, List.length_cons] at h2 h3
    have q1 := X.heapSize
    have q2 := X.used
    simp only [hF, hU, List.length_cons, State.stackLimits_setFrames, State.stackBytes_setFrames, hl9, hb9]
    refine ⟨⟨⟨⟨by omega, by omega, by omega, by omega, by omega, h6⟩, ?_⟩, ?_⟩, X.book⟩
    · show T.heap.size + R'.cells ≤ e.platform.maxCells
      omega
    · show T.slotsUsed + R'.slots ≤ e.platform.maxSlots
      omega
  · rw [State.stackLimits_setFrames]; rfl
  · rw [State.stackBytes_setFrames]; rfl
  · refine ⟨?_, Nat.le_refl _, Nat.le_refl _, ?_, ?_, fun a c9 h9 => ⟨c9, h9, rfl, rfl, fun _ _ => rfl⟩⟩
    · obtain ⟨t, ht, -⟩ := State.frames_cons hr
      show T.setVm s.vm = { ((T.setVm s.vm).setFrames (.invoking m args :: below)).setFrames (T.setVm s.vm).frames with heap := T.heap, slotsUsed := T.slotsUsed }
      rw [State.setFrames_setFrames, State.setFrames_self ht]
      rfl
    · show T.slotsUsed = T.slotsUsed + ((T.heap.toList.drop T.heap.size).map (·.slots.size)).sum
      rw [List.drop_eq_nil_of_le (Nat.le_of_eq Array.length_toList)]
      rfl
    · show ((T.heap.toList.drop T.heap.size).map (·.slots.size)).sum ≤ 0
      rw [List.drop_eq_nil_of_le (Nat.le_of_eq Array.length_toList)]
      exact Nat.le_refl _
/-- 'throw new E()': new; dup; invokespecial; athrow -/
theorem vx_throw0 {cc : ByteArray} {pc : Nat} (hexec : p.tables.exec = Jvm.exec) (hb : c.code = cc) (hl : l.stackTraces = false) {own cls : String} {names : List String} {ik ic mc ms : Nat} {A : Nat → Prop}
    (hown : s.vm.findClass own = some m.cls) (hcls : Bundle.fit cls = true) (hnames : ∀ n ∈ names, Bundle.fit n = true)
    (hk : (Cond.classLink own ik cls).before args s = true) (hini : (Cond.initialized cls).before args s = true) (hat : ∀ w ∈ vx_at0 own ic cls names, w.before args s = true)
    (hgood : ∀ w ∈ Cond.classLink own ik cls :: Cond.initialized cls :: vx_at0 own ic cls names, vx_ot w = true)
    (hU : vx_Zq Bundle.tN "UNASSIGNED_STACK" Bundle.steD A s s.heap) (hN : vx_Zq Bundle.tN "SUPPRESSED_SENTINEL" Bundle.listD A s s.heap) (hS : va_S A s.heap H locs) (hsize : ls.size = c.maxLocals)
    (d0 : decode cc pc = .ok (.new ik, 3)) (d3 : decode cc (pc + 3) = .ok (.dup, 1)) (d4 : decode cc (pc + 4) = .ok (.invokespecial ic, 3)) (d7 : decode cc (pc + 7) = .ok (.athrow, 1))
    (hout : ∀ x ∈ c.exceptionTable.toList, covers x (pc + 7) = false)
    (hRframes : names.length + 3 < R.frames) (hRlocals : (rest.map fun v => v.category).sum + (13 * (names.length + 1) + 42) ≤ R.locals) (hRcells : cells + 1 ≤ R.cells) (hRslots : slots + 6 ≤ R.slots) (hlocks : meth.locks = false)
    (hx : ∀ t : State, s.vm.Alike t.vm → H.size ≤ t.heap.size → (∀ q : Nat, q < H.size → t.heap[q]? = H[q]?) → XC cls s t)
    (hf : ∀ z ∈ locs, free z.base) (hc : cells + 1 ≤ mc) (hs : slots + 6 ≤ ms) :
    W p l e R s m args below meth c H locs cells slots (vx_MQ below Qc XC args s mc ms free) (F0 m pc ls rest) := by
  intro T hT X
  have htr : e.platform.stackTraces = false := (show e.platform.stackTraces = l.stackTraces by rw [X.admits.platform]).trans hl
  have Y := vx_rebase X (R' := { frames := R.frames, locals := R.locals, cells := 1, slots := 6 }) (Nat.le_refl _) (Nat.le_refl _) hRcells hRslots
  obtain ⟨s', hA⟩ : ∃ z, z = (T.setVm s.vm).setFrames (.invoking m args :: below) := ⟨_, rfl⟩
  rw [← hA] at Y
  have hvm : s'.vm = s.vm := by rw [hA]; rfl
  have hhp : s'.heap = H := by rw [hA]; exact hT
  have hW0 : s.WarmedH s'.vm := by rw [hvm]; exact State.WarmedH.refl s
  have hat' : ∀ w ∈ vx_at0 own ic cls names, w.before args s' = true := fun w hw => vx_ot_at hW0 hvm.symm (hgood w (List.mem_cons_of_mem _ (List.mem_cons_of_mem _ hw))) (hat w hw)
  have hk' : (Cond.classLink own ik cls).before args s' = true := vx_ot_at hW0 hvm.symm (hgood _ List.mem_cons_self) hk
  have hini' : (Cond.initialized cls).before args s' = true := vx_ot_at hW0 hvm.symm (hgood _ (List.mem_cons_of_mem _ List.mem_cons_self)) hini
  have hU' : vx_Zq Bundle.tN "UNASSIGNED_STACK" Bundle.steD A s' s'.heap := by rw [hhp]; exact vx_Zq.moved hW0.alike (hU.kept hS.2.1)
  have hN' : vx_Zq Bundle.tN "SUPPRESSED_SENTINEL" Bundle.listD A s' s'.heap := by rw [hhp]; exact vx_Zq.moved hW0.alike (hN.kept hS.2.1)
  have h : ∀ w ∈ Bundle.ownAtoms0 own ic cls names, w.before args s' = true := vx_own hat' (vx_isRefq hU'.1) (vx_isRefq hN'.1) hU'.2.word hN'.2.word
  have hown' : s'.vm.findClass own = some m.cls := by rw [hvm]; exact hown
  have hins : (Cond.instantiable cls 6).before args s' = true := h _ (by simp [Bundle.ownAtoms0])
  obtain ⟨vm₁, cX, kX, hfX, hkX, -, -, X₁, st1⟩ := Y.newCold hexec (own := own) (C := cls) (index := ik) (n := 6) hown' hk' hins hini'
    (g := F0 m pc ls rest) rfl (by rw [hb]; exact d0) (Nat.le_refl _) (Nat.le_refl _)
  generalize hT1 : (T.setVm vm₁).pushCell { cls := cX, slots := kX.instanceTypes.map defaultValue, vm := .none } = T1 at X₁ st1
  have hcat : (Value.ref T.heap.size).category = 1 := rfl
  have hcellA : T1.heap[T.heap.size]? = some (freshCell cX kX) := by rw [← hT1]; exact State.heap_pushCell_size _ _
  have d3' : decode c.code (pc + 3) = .ok (.dup, 1) := by rw [hb]; exact d3
  obtain ⟨U, hsteps, hrun, hend, hW, hsame, ce, hce, hO⟩ := X₁.ctorThrow0 hexec htr (own := own) (cls := cls) (names := names) (ic := ic) hown' hcls hnames h (fun x hx => nomatch hx) hfX hkX hcellA (by rw [hhp, hT]; exact Nat.le_refl _)
    (g := { method := m, pc := pc + 4, locals := ls, stack := .ref T.heap.size :: .ref T.heap.size :: rest, locked := none }) rfl hsize rfl rfl (rest := rest) rfl
    (by rw [hb]; exact d4) (by rw [hb]; exact d7) hout hRframes (by simp only [List.map_cons, List.sum_cons, hcat]; omega) hlocks
  obtain ⟨f1, f2⟩ := vx_frame hsame
  rw [hhp] at f1 f2
  have hWs : s.WarmedH U.vm := State.WarmedH.trans hW0 hW
  have hcl : s.vm.findClass cls = some ce.cls := by
    have h9 := hO.cls
    rw [hvm] at h9
    exact h9
  have hall : s.sameButNew ({ U with vm := s.vm } : State) locs mc ms := by
    subst hA
    obtain ⟨e1, e2⟩ := hsame
    rw [State.setFrames_setFrames] at e1
    have h2 : (T.setVm s.vm).sameButNew ({ U with vm := s.vm } : State) [] (0 + 1) (0 + 6) := ⟨e1, e2⟩
    have h3 := X.same.trans h2
    rw [List.append_nil] at h3
    exact h3.mono hc hs
  refine ⟨U, ?_, .threw T.heap.size, hrun, hend, Or.inr ⟨T.heap.size, rfl, cls, ce, locs, hx U hWs.alike f1 (fun q hq => f2 q hq (fun z hz => nomatch hz)), hce, hO.vm, hcl, hWs, hall, hf⟩⟩
  refine st1 _ ?_
  show Steps p.tables e below (T1.setTop { method := m, pc := pc + 3, locals := ls, stack := .ref T.heap.size :: rest, locked := none }) _
  jvm_step X₁.here [X₁.here.top, hexec, d3', Value.category]
  exact hsteps
/-- 'throw new E("text")': new; dup; ldc; invokespecial; athrow -/
theorem vx_throwS {cc : ByteArray} {pc : Nat} (hexec : p.tables.exec = Jvm.exec) (hb : c.code = cc) (hl : l.stackTraces = false) {own cls text : String} {names : List String} {ik is ic mc ms sa : Nat} {A : Nat → Prop}
    (hown : s.vm.findClass own = some m.cls) (hcls : Bundle.fit cls = true) (hnames : ∀ n ∈ names, Bundle.fit n = true)
    (hk : (Cond.classLink own ik cls).before args s = true) (hini : (Cond.initialized cls).before args s = true) (hstr : vk_R own is text sa s) (hat : ∀ w ∈ vx_atS own ic cls names, w.before args s = true)
    (hgood : ∀ w ∈ Cond.classLink own ik cls :: Cond.initialized cls :: vx_atS own ic cls names, vx_ot w = true)
    (hU : vx_Zq Bundle.tN "UNASSIGNED_STACK" Bundle.steD A s s.heap) (hN : vx_Zq Bundle.tN "SUPPRESSED_SENTINEL" Bundle.listD A s s.heap) (hS : va_S A s.heap H locs) (hsize : ls.size = c.maxLocals)
    (d0 : decode cc pc = .ok (.new ik, 3)) (d3 : decode cc (pc + 3) = .ok (.dup, 1)) (d4 : decode cc (pc + 4) = .ok (.ldc is, 2)) (d6 : decode cc (pc + 6) = .ok (.invokespecial ic, 3)) (d9 : decode cc (pc + 9) = .ok (.athrow, 1))
    (hout : ∀ x ∈ c.exceptionTable.toList, covers x (pc + 9) = false)
    (hRframes : names.length + 3 < R.frames) (hRlocals : (rest.map fun v => v.category).sum + (13 * (names.length + 1) + 43) ≤ R.locals) (hRcells : cells + 1 ≤ R.cells) (hRslots : slots + 6 ≤ R.slots) (hlocks : meth.locks = false)
    (hx : ∀ t : State, s.vm.Alike t.vm → H.size ≤ t.heap.size → (∀ q : Nat, q < H.size → t.heap[q]? = H[q]?) → XC cls s t)
    (hf : ∀ z ∈ locs, free z.base) (hc : cells + 1 ≤ mc) (hs : slots + 6 ≤ ms) :
    W p l e R s m args below meth c H locs cells slots (vx_MQ below Qc XC args s mc ms free) (F0 m pc ls rest) := by
  intro T hT X
  have htr : e.platform.stackTraces = false := (show e.platform.stackTraces = l.stackTraces by rw [X.admits.platform]).trans hl
  have Y := vx_rebase X (R' := { frames := R.frames, locals := R.locals, cells := 1, slots := 6 }) (Nat.le_refl _) (Nat.le_refl _) hRcells hRslots
  obtain ⟨s', hA⟩ : ∃ z, z = (T.setVm s.vm).setFrames (.invoking m args :: below) := ⟨_, rfl⟩
  rw [← hA] at Y
  have hvm : s'.vm = s.vm := by rw [hA]; rfl
  have hhp : s'.heap = H := by rw [hA]; exact hT
  have hW0 : s.WarmedH s'.vm := by rw [hvm]; exact State.WarmedH.refl s
  have hat' : ∀ w ∈ vx_atS own ic cls names, w.before args s' = true := fun w hw => vx_ot_at hW0 hvm.symm (hgood w (List.mem_cons_of_mem _ (List.mem_cons_of_mem _ hw))) (hat w hw)
  have hk' : (Cond.classLink own ik cls).before args s' = true := vx_ot_at hW0 hvm.symm (hgood _ List.mem_cons_self) hk
  have hini' : (Cond.initialized cls).before args s' = true := vx_ot_at hW0 hvm.symm (hgood _ (List.mem_cons_of_mem _ List.mem_cons_self)) hini
  have hU' : vx_Zq Bundle.tN "UNASSIGNED_STACK" Bundle.steD A s' s'.heap := by rw [hhp]; exact vx_Zq.moved hW0.alike (hU.kept hS.2.1)
  have hN' : vx_Zq Bundle.tN "SUPPRESSED_SENTINEL" Bundle.listD A s' s'.heap := by rw [hhp]; exact vx_Zq.moved hW0.alike (hN.kept hS.2.1)
  have h : ∀ w ∈ Bundle.ownAtoms own ic cls names, w.before args s' = true := vx_own hat' (vx_isRefq hU'.1) (vx_isRefq hN'.1) hU'.2.word hN'.2.word
  have hown' : s'.vm.findClass own = some m.cls := by rw [hvm]; exact hown
  have hins : (Cond.instantiable cls 6).before args s' = true := h _ (by simp [Bundle.ownAtoms])
  obtain ⟨vm₁, cX, kX, hfX, hkX, -, -, X₁, st1⟩ := Y.newCold hexec (own := own) (C := cls) (index := ik) (n := 6) hown' hk' hins hini'
    (g := F0 m pc ls rest) rfl (by rw [hb]; exact d0) (Nat.le_refl _) (Nat.le_refl _)
  generalize hT1 : (T.setVm vm₁).pushCell { cls := cX, slots := kX.instanceTypes.map defaultValue, vm := .none } = T1 at X₁ st1
  have hcat : (Value.ref T.heap.size).category = 1 := rfl
  have hcellA : T1.heap[T.heap.size]? = some (freshCell cX kX) := by rw [← hT1]; exact State.heap_pushCell_size _ _
  have d3' : decode c.code (pc + 3) = .ok (.dup, 1) := by rw [hb]; exact d3
  have d4' : decode c.code (pc + 4) = .ok (.ldc is, 2) := by rw [hb]; exact d4
  have hstr' : vk_R own is text sa s' := vk_R.warm hW0 hstr
  obtain ⟨U, hsteps, hrun, hend, hW, hsame, ce, hce, hO⟩ := X₁.ctorThrowS hexec htr (own := own) (cls := cls) (names := names) (ic := ic) hown' hcls hnames h (fun x hx => nomatch hx) hfX hkX hcellA (by rw [hhp, hT]; exact Nat.le_refl _) (msg := .ref sa) rfl
    (g := { method := m, pc := pc + 6, locals := ls, stack := .ref sa :: .ref T.heap.size :: .ref T.heap.size :: rest, locked := none }) rfl hsize rfl rfl (rest := rest) rfl
    (by rw [hb]; exact d6) (by rw [hb]; exact d9) hout hRframes (by simp only [List.map_cons, List.sum_cons, hcat]; omega) hlocks
  obtain ⟨f1, f2⟩ := vx_frame hsame
  rw [hhp] at f1 f2
  have hWs : s.WarmedH U.vm := State.WarmedH.trans hW0 hW
  have hcl : s.vm.findClass cls = some ce.cls := by
    have h9 := hO.cls
    rw [hvm] at h9
    exact h9
  have hall : s.sameButNew ({ U with vm := s.vm } : State) locs mc ms := by
    subst hA
    obtain ⟨e1, e2⟩ := hsame
    rw [State.setFrames_setFrames] at e1
    have h2 : (T.setVm s.vm).sameButNew ({ U with vm := s.vm } : State) [] (0 + 1) (0 + 6) := ⟨e1, e2⟩
    have h3 := X.same.trans h2
    rw [List.append_nil] at h3
    exact h3.mono hc hs
  refine ⟨U, ?_, .threw T.heap.size, hrun, hend, Or.inr ⟨T.heap.size, rfl, cls, ce, locs, hx U hWs.alike f1 (fun q hq => f2 q hq (fun z hz => nomatch hz)), hce, hO.vm, hcl, hWs, hall, hf⟩⟩
  refine st1 _ ?_
  show Steps p.tables e below (T1.setTop { method := m, pc := pc + 3, locals := ls, stack := .ref T.heap.size :: rest, locked := none }) _
  jvm_step X₁.here [X₁.here.top, hexec, d3', Value.category]
  exact X₁.ldcString hexec (own := own) (text := text) (index := is) (a := sa) hown' hstr'.1 hstr'.2
    (g := { method := m, pc := pc + 4, locals := ls, stack := .ref T.heap.size :: .ref T.heap.size :: rest, locked := none }) rfl d4' _ hsteps
/-- 'throw new E("text")', the text by a wide index -/
theorem vx_throwSW {cc : ByteArray} {pc : Nat} (hexec : p.tables.exec = Jvm.exec) (hb : c.code = cc) (hl : l.stackTraces = false) {own cls text : String} {names : List String} {ik is ic mc ms sa : Nat} {A : Nat → Prop}
    (hown : s.vm.findClass own = some m.cls) (hcls : Bundle.fit cls = true) (hnames : ∀ n ∈ names, Bundle.fit n = true)
    (hk : (Cond.classLink own ik cls).before args s = true) (hini : (Cond.initialized cls).before args s = true) (hstr : vk_R own is text sa s) (hat : ∀ w ∈ vx_atS own ic cls names, w.before args s = true)
    (hgood : ∀ w ∈ Cond.classLink own ik cls :: Cond.initialized cls :: vx_atS own ic cls names, vx_ot w = true)
    (hU : vx_Zq Bundle.tN "UNASSIGNED_STACK" Bundle.steD A s s.heap) (hN : vx_Zq Bundle.tN "SUPPRESSED_SENTINEL" Bundle.listD A s s.heap) (hS : va_S A s.heap H locs) (hsize : ls.size = c.maxLocals)
    (d0 : decode cc pc = .ok (.new ik, 3)) (d3 : decode cc (pc + 3) = .ok (.dup, 1)) (d4 : decode cc (pc + 4) = .ok (.ldc_w is, 3)) (d7 : decode cc (pc + 7) = .ok (.invokespecial ic, 3)) (d10 : decode cc (pc + 10) = .ok (.athrow, 1))
    (hout : ∀ x ∈ c.exceptionTable.toList, covers x (pc + 10) = false)
    (hRframes : names.length + 3 < R.frames) (hRlocals : (rest.map fun v => v.category).sum + (13 * (names.length + 1) + 43) ≤ R.locals) (hRcells : cells + 1 ≤ R.cells) (hRslots : slots + 6 ≤ R.slots) (hlocks : meth.locks = false)
    (hx : ∀ t : State, s.vm.Alike t.vm → H.size ≤ t.heap.size → (∀ q : Nat, q < H.size → t.heap[q]? = H[q]?) → XC cls s t)
    (hf : ∀ z ∈ locs, free z.base) (hc : cells + 1 ≤ mc) (hs : slots + 6 ≤ ms) :
    W p l e R s m args below meth c H locs cells slots (vx_MQ below Qc XC args s mc ms free) (F0 m pc ls rest) := by
  intro T hT X
  have htr : e.platform.stackTraces = false := (show e.platform.stackTraces = l.stackTraces by rw [X.admits.platform]).trans hl
  have Y := vx_rebase X (R' := { frames := R.frames, locals := R.locals, cells := 1, slots := 6 }) (Nat.le_refl _) (Nat.le_refl _) hRcells hRslots
  obtain ⟨s', hA⟩ : ∃ z, z = (T.setVm s.vm).setFrames (.invoking m args :: below) := ⟨_, rfl⟩
  rw [← hA] at Y
  have hvm : s'.vm = s.vm := by rw [hA]; rfl
  have hhp : s'.heap = H := by rw [hA]; exact hT
  have hW0 : s.WarmedH s'.vm := by rw [hvm]; exact State.WarmedH.refl s
  have hat' : ∀ w ∈ vx_atS own ic cls names, w.before args s' = true := fun w hw => vx_ot_at hW0 hvm.symm (hgood w (List.mem_cons_of_mem _ (List.mem_cons_of_mem _ hw))) (hat w hw)
  have hk' : (Cond.classLink own ik cls).before args s' = true := vx_ot_at hW0 hvm.symm (hgood _ List.mem_cons_self) hk
  have hini' : (Cond.initialized cls).before args s' = true := vx_ot_at hW0 hvm.symm (hgood _ (List.mem_cons_of_mem _ List.mem_cons_self)) hini
  have hU' : vx_Zq Bundle.tN "UNASSIGNED_STACK" Bundle.steD A s' s'.heap := by rw [hhp]; exact vx_Zq.moved hW0.alike (hU.kept hS.2.1)
  have hN' : vx_Zq Bundle.tN "SUPPRESSED_SENTINEL" Bundle.listD A s' s'.heap := by rw [hhp]; exact vx_Zq.moved hW0.alike (hN.kept hS.2.1)
  have h : ∀ w ∈ Bundle.ownAtoms own ic cls names, w.before args s' = true := vx_own hat' (vx_isRefq hU'.1) (vx_isRefq hN'.1) hU'.2.word hN'.2.word
  have hown' : s'.vm.findClass own = some m.cls := by rw [hvm]; exact hown
  have hins : (Cond.instantiable cls 6).before args s' = true := h _ (by simp [Bundle.ownAtoms])
  obtain ⟨vm₁, cX, kX, hfX, hkX, -, -, X₁, st1⟩ := Y.newCold hexec (own := own) (C := cls) (index := ik) (n := 6) hown' hk' hins hini'
    (g := F0 m pc ls rest) rfl (by rw [hb]; exact d0) (Nat.le_refl _) (Nat.le_refl _)
  generalize hT1 : (T.setVm vm₁).pushCell { cls := cX, slots := kX.instanceTypes.map defaultValue, vm := .none } = T1 at X₁ st1
  have hcat : (Value.ref T.heap.size).category = 1 := rfl
  have hcellA : T1.heap[T.heap.size]? = some (freshCell cX kX) := by rw [← hT1]; exact State.heap_pushCell_size _ _
  have d3' : decode c.code (pc + 3) = .ok (.dup, 1) := by rw [hb]; exact d3
  have d4' : decode c.code (pc + 4) = .ok (.ldc_w is, 3) := by rw [hb]; exact d4
  have hstr' : vk_R own is text sa s' := vk_R.warm hW0 hstr
  obtain ⟨U, hsteps, hrun, hend, hW, hsame, ce, hce, hO⟩ := X₁.ctorThrowS hexec htr (own := own) (cls := cls) (names := names) (ic := ic) hown' hcls hnames h (fun x hx => nomatch hx) hfX hkX hcellA (by rw [hhp, hT]; exact Nat.le_refl _) (msg := .ref sa) rfl
    (g := { method := m, pc := pc + 7, locals := ls, stack := .ref sa :: .ref T.heap.size :: .ref T.heap.size :: rest, locked := none }) rfl hsize rfl rfl (rest := rest) rfl
    (by rw [hb]; exact d7) (by rw [hb]; exact d10) hout hRframes (by simp only [List.map_cons, List.sum_cons, hcat]; omega) hlocks
  obtain ⟨f1, f2⟩ := vx_frame hsame
  rw [hhp] at f1 f2
  have hWs : s.WarmedH U.vm := State.WarmedH.trans hW0 hW
  have hcl : s.vm.findClass cls = some ce.cls := by
    have h9 := hO.cls
    rw [hvm] at h9
    exact h9
  have hall : s.sameButNew ({ U with vm := s.vm } : State) locs mc ms := by
    subst hA
    obtain ⟨e1, e2⟩ := hsame
    rw [State.setFrames_setFrames] at e1
    have h2 : (T.setVm s.vm).sameButNew ({ U with vm := s.vm } : State) [] (0 + 1) (0 + 6) := ⟨e1, e2⟩
    have h3 := X.same.trans h2
    rw [List.append_nil] at h3
    exact h3.mono hc hs
  refine ⟨U, ?_, .threw T.heap.size, hrun, hend, Or.inr ⟨T.heap.size, rfl, cls, ce, locs, hx U hWs.alike f1 (fun q hq => f2 q hq (fun z hz => nomatch hz)), hce, hO.vm, hcl, hWs, hall, hf⟩⟩
  refine st1 _ ?_
  show Steps p.tables e below (T1.setTop { method := m, pc := pc + 3, locals := ls, stack := .ref T.heap.size :: rest, locked := none }) _
  jvm_step X₁.here [X₁.here.top, hexec, d3', Value.category]
  exact X₁.ldcStringW hexec (own := own) (text := text) (index := is) (a := sa) hown' hstr'.1 hstr'.2
    (g := { method := m, pc := pc + 4, locals := ls, stack := .ref T.heap.size :: .ref T.heap.size :: rest, locked := none }) rfl d4' _ hsteps
end Ends
section Bodies
variable {l : Launch}
theorem vx_ofW {y : MethodName} {ws ws' : List Cond} {rm : Room} {Pc : Array Value → State → Prop} {Qc : Array Value → State → Outcome → State → Prop} {XC : String → State → State → Prop} {mc ms : Nat} {free : Addr → Prop} {cc : ByteArray} {maxL : Nat} {ret : Option FieldType}
    (hy : plainName y.cls = true) (hw : ws = Cond.code y cc maxL ret :: ws')
    (body : ∀ p e s m args below meth c s₁, BodyLoose p l y (headSpec ws rm) cc maxL ret e s m args below meth c s₁ → c.maxLocals = maxL → (∀ x ∈ c.exceptionTable.toList, False) → Pc args s →
      W p l e (headSpec ws rm).room s m args below meth c s.heap [] 0 0 (vx_MQ below Qc XC args s mc ms free) (entryFrame m args maxL)) : vx_Met l y ws rm Pc Qc XC mc ms free := by
  refine MetFree.of_bodyS (code := cc) (maxLocals := maxL) (ret := ret) hy ?_ ?_
  · intro args s m h hn
    obtain ⟨meth, c, h1, h2, h3, h4, h5, h6, -, -⟩ := Cond.code_spec hn (atoms_spec (ws := ws) h _ (by rw [hw]; exact List.mem_cons_self))
    exact ⟨meth, c, h1, h2, h3, h4, h5, h6⟩
  · intro p e s m args below meth c s₁ B hml hP _
    have hh0 : s₁.heap = s.heap := by rw [B.state]; rfl
    have ht : ∀ x ∈ c.exceptionTable.toList, False := by
      obtain ⟨meth9, c9, h1, h2, -, -, -, -, h7, -⟩ := Cond.code_spec B.named (atoms_spec (ws := ws) B.pre _ (by rw [hw]; exact List.mem_cons_self))
      cases Option.some.inj (h1.symm.trans B.method)
      cases Option.some.inj (h2.symm.trans (Stand.of_body B).code)
      intro x hx
      rw [Array.isEmpty_iff.mp h7] at hx
      cases hx
    obtain ⟨t, a1, o, b1, b2, b3⟩ := body p e s m args below meth c s₁ B hml ht hP s₁ hh0 (Stand.of_body B)
    exact ⟨t, o, a1, b1, b2, b3⟩
/-- the table of a body with handlers -/
theorem vx_table {p : Program} {x y : MethodName} {S : Spec} {cc bytes : ByteArray} {maxL maxL' : Nat} {ret ret' : Option FieldType} {e : Env} {s s₁ : State} {m : MethodId} {args : Array Value} {below : List Frame} {meth : Method} {c : Code} {hh : List (Nat × Nat × Nat × Nat)}
    (B : BodyLoose p l y S cc maxL ret e s m args below meth c s₁) (h : (Cond.codeWith y bytes maxL' ret' hh).before args s = true) : c.exceptionTable.toList = tableOf hh := by
  obtain ⟨m9, meth9, c9, hn9, h1, h2, -, -, h6, -⟩ := Cond.codeWith_spec h
  cases Option.some.inj (hn9.symm.trans B.named)
  cases Option.some.inj (h1.symm.trans B.method)
  cases Option.some.inj (h2.symm.trans (Stand.of_body B).code)
  rw [← h6, table_eq]
end Bodies
end VXA
/-! ===== END ===== -/
/-! ===== BEGIN a static call of a method with an exception table ===== -/
section VXS
variable {p : Program} {l : Launch} {e : Env} {R : Room} {s : State} {m : MethodId} {args : Array Value} {below : List Frame} {meth : Method} {c : Code} {T : State} {H : Heap} {locs : List Loc} {cells slots : Nat}
abbrev vx_CSW (R : Room) (s : State) (args : Array Value) (own : String) (index : Nat) (y : MethodName) (bytes : ByteArray) (maxL : Nat) (ret : Option FieldType) (hh : List (Nat × Nat × Nat × Nat)) (ws : List Cond) (rm : Room) (mc ms n : Nat) : Prop :=
  (rm.cells = mc ∧ rm.slots = ms ∧ rm.frames + 1 ≤ R.frames ∧ 8 + (maxL + 11) + rm.locals ≤ R.locals ∧ (∀ w ∈ ws, ∀ (a' : Array Value) (U : State), s.WarmedH U.vm → w.before a' U = true) ∧ Cond.codeWith y bytes maxL ret hh ∈ ws) ∧
  (Cond.codeWith y bytes maxL ret hh).before args s = true ∧ (Cond.initialized y.cls).before args s = true ∧ (y.cls ≠ "java/lang/invoke/MethodHandle" ∧ y.cls ≠ "java/lang/invoke/VarHandle") ∧
  (∀ sig, parseMethodDescriptor y.desc = some sig → n = sig.parameters.length) ∧ (Cond.methodLink own index y).before args s = true ∧ (Cond.static y).before args s = true
theorem vx_cwSW {own : String} {index maxL mc ms : Nat} {y : MethodName} {bytes : ByteArray} {ret : Option FieldType} {hh : List (Nat × Nat × Nat × Nat)} {Ts ws ws' : List Cond} {rm : Room} (n : Nat) (ht : ∀ w ∈ Ts, w.before args s = true) (hT : GoodIn Ts (va_wsS own index y ws)) (hw : ws = Cond.codeWith y bytes maxL ret hh :: ws') (hrc : rm.cells = mc) (hrs : rm.slots = ms)
    (hd : y.cls ≠ "java/lang/invoke/MethodHandle" ∧ y.cls ≠ "java/lang/invoke/VarHandle" ∧ (parseMethodDescriptor y.desc).map (fun d => d.parameters.length) = some n) (hR : rm.frames + 1 ≤ R.frames ∧ 8 + (maxL + 11) + rm.locals ≤ R.locals) :
    vx_CSW R s args own index y bytes maxL ret hh ws rm mc ms n := by
  have ok : ∀ w ∈ va_wsS own index y ws, w.before args s = true := fun w h => ht w (hT w h).1
  have hG : GoodIn Ts ws := fun w h => hT w (by unfold va_wsS; exact List.mem_append_right _ h)
  have hc : Cond.codeWith y bytes maxL ret hh ∈ ws := by rw [hw]; exact List.mem_cons_self
  refine ⟨⟨hrc, hrs, hR.1, hR.2, pay_in ht hG, hc⟩, ht _ (hG _ hc).1, ok _ (by simp [va_wsS]), ⟨hd.1, hd.2.1⟩, fun sig h => ?_, ok _ (by simp [va_wsS]), ok _ (by simp [va_wsS])⟩
  have h2 := hd.2.2
  rw [h] at h2
  exact (Option.some.inj h2).symm
theorem vx_callSW (X : Stand p l e R s m args below meth c T locs cells slots) (hexec : p.tables.exec = Jvm.exec) {own : String} {index : Nat} {y : MethodName} {bytes : ByteArray} {maxL : Nat} {ret : Option FieldType} {hh : List (Nat × Nat × Nat × Nat)}
    (hown : s.vm.findClass own = some m.cls) (hlink : (Cond.methodLink own index y).before args s = true) (hstat : (Cond.static y).before args s = true) (hinit : (Cond.initialized y.cls).before args s = true)
    (hcode : (Cond.codeWith y bytes maxL ret hh).before args s = true) (hy : y.cls ≠ "java/lang/invoke/MethodHandle" ∧ y.cls ≠ "java/lang/invoke/VarHandle")
    {W9 : Nat} {Pre : Pt → Array Value → Prop} {Post : Pt → Array Value → Option Value → Pt → Prop} (hK : Back l R p e below s args y 3 W9 Pre Post)
    {g : JFrame} (hg : g.method = m) (hsize : g.locals.size = c.maxLocals) {argsL rest : List Value} (hlen : ∀ sig, parseMethodDescriptor y.desc = some sig → argsL.length = sig.parameters.length)
    (hstack : g.stack = argsL.reverse ++ rest) (hW : 2 * g.monitorRoom + (rest.map fun v => v.category).sum ≤ W9) (hdg : decode c.code g.pc = .ok (.invokestatic index, 3))
    (hpre : ∀ vm₁, s.WarmedH vm₁ → Pre ⟨T.setVm vm₁, locs, cells, slots⟩ argsL.toArray) :
    ∃ (v : Option Value) (vm₁ : Vm) (B : Pt), s.WarmedH vm₁ ∧ Stand p l e R s m args below meth c B.U B.locs B.cells B.slots ∧ Post ⟨T.setVm vm₁, locs, cells, slots⟩ argsL.toArray v B ∧
      ∀ target, Steps p.tables e below (B.U.setTop { g with pc := g.pc + 3, stack := v.toList ++ rest }) target → Steps p.tables e below (T.setTop g) target := by
  obtain ⟨mk, methM, cM, hnamed, hmethM, -, -, -, -, -, -, hsigM⟩ := Cond.codeWith_spec hcode
  have hstatic : methM.isStatic = true := Cond.static_spec hnamed hmethM hstat
  obtain ⟨kP, hkP, -⟩ := className_of_methodNamed hnamed
  have hinitP : kP.init = .initialized := Cond.initialized_spec (findClass_of_methodNamed hnamed) hkP hinit
  obtain ⟨vm₁, X₁, hstep₁⟩ := X.invokestatic hexec hown hlink hnamed hmethM hstatic hkP hinitP hy (g := g) hg (argsL := argsL) (rest := rest) (hlen _ hsigM) hstack hdg
  obtain ⟨v, B, X', hpost, hsteps⟩ := hK m meth c ⟨T.setVm vm₁, locs, cells, slots⟩ { g with stack := rest } (.invokestatic index) mk argsL.toArray X₁ hg hsize hdg hW (X₁.named hnamed) (hpre vm₁ X₁.warmed)
  exact ⟨v, vm₁, B, X₁.warmed, X', hpost, fun target h => hstep₁ _ fun acts => by rw [doInvoke_state]; exact hsteps.trans h⟩
theorem vx_runSW {y : MethodName} {bytes cc : ByteArray} {maxL nL mc ms n index : Nat} {ret : Option FieldType} {hh : List (Nat × Nat × Nat × Nat)} {ws : List Cond} {rm : Room} {Pc : Array Value → State → Prop} {Qc : Array Value → State → Outcome → State → Prop} {free : Addr → Prop} {Ts : List Cond} {own : String} {As rest : List Value} {g : JFrame}
    (S : CallFix p m c cc nL s args Ts own) (hM : Met l y ws rm Pc Qc mc ms free) (cw : vx_CSW R s args own index y bytes maxL ret hh ws rm mc ms n) (hp : PreS s H Pc As)
    (hg : g.method = m) (hn : As.length = n) (hsize : g.locals.size = nL) (hstack : g.stack = As.reverse ++ rest) (hW : 2 * g.monitorRoom + (rest.map fun v => v.category).sum ≤ 8) (hdg : decode cc g.pc = .ok (.invokestatic index, 3)) (hf : cells + mc ≤ R.cells ∧ slots + ms ≤ R.slots) :
    va_Run p l e R s m args below meth c H locs cells slots mc ms g rest (Qc As.toArray) (free) := by
  obtain ⟨⟨hrc, hrs, hfr, hlo, hws, hcw⟩, hcode, hini, hy, hlen, hl, hstt⟩ := cw
  have hK : Back l R p e below s args y 3 8 (PreOf R mc ms Pc) (PostOf Qc mc ms free) := va_backW (hh := hh) (bytes := bytes) (maxL := maxL) (ret := ret) hM hp.1 hrc hrs hfr hlo hws hcw (fun a' U hW => word_at hW (Or.inl (by first | rfl | simp [Cond.onTables, Cond.keeps, Cond.steady])) hini)
  obtain ⟨hx, hb, hml, ho, -⟩ := S
  intro T hT X
  obtain ⟨v, vm₁, ⟨U', l2, c2, s2⟩, hW₁, X', ⟨g', mk, t, L, e1, e2, hq, h1, hL, h2, h3⟩, st⟩ := vx_callSW X hx (hh := hh) (bytes := bytes) (maxL := maxL) (ret := ret) ho hl hstt hini hcode hy hK hg (hsize.trans hml.symm) (argsL := As) (rest := rest) (fun sig h => hn.trans (hlen sig h)) hstack hW (by rw [hb]; exact hdg)
    (fun vm₁ hW₁ => ⟨hf.1, hf.2, hp.2 (T.setVm vm₁) hT hW₁⟩)
  dsimp only [Pt.U, Pt.locs, Pt.cells, Pt.slots] at X' e1 e2 h1 h2 h3 st
  subst h1; subst h2; subst h3
  exact ⟨v, (T.setVm vm₁).calling g' mk As.toArray, t, U', L, hT, X', hL, e1, e2, hq, st⟩
/-- not caught here, past rows that name other classes: it goes on to the caller -/
theorem vx_outP {p : Program} {l : Launch} {e : Env} {R : Room} {s : State} {m : MethodId} {args : Array Value} {below : List Frame} {meth : Method} {c : Code} {H : Heap} {locs : List Loc} {cells slots : Nat} {free : Addr → Prop} {ls : Array Slot} {rest : List Value} {Qc : Array Value → State → Outcome → State → Prop} {XC : String → State → State → Prop}
    {pc : Nat} {own E : String} {ce : Cell} {q : Addr} {mc ms : Nat} (hown : s.vm.findClass own = some m.cls) (hlocks : meth.locks = false)
    (hpass : ∀ z ∈ c.exceptionTable.toList, covers z pc = false ∨ (z.catchType ≠ 0 ∧ ∃ nm : String, (Cond.classLink own z.catchType nm).before args s = true ∧ va_Nc E nm s)) (hcell : H[q]? = some ce) (hv : ce.vm = .none) (hcl : s.vm.findClass E = some ce.cls)
    (hx : ∀ t : State, t.heap = H → s.vm.Alike t.vm → XC E s t) (hf : ∀ z ∈ locs, free z.base) (hc : cells ≤ mc) (hs : slots ≤ ms) :
    vx_W p l e R s m args below meth c H locs cells slots (vx_MQ below Qc XC args s mc ms free) (F0 m pc ls rest) q := by
  intro T hT X
  have hpl : e.platform.magicAccessors = ({} : Platform).magicAccessors := by rw [X.admits.platform]
  obtain ⟨vm', hW', X', st⟩ := Stand.outThrough X hlocks q (g := F0 m pc ls rest) rfl rfl rfl (cell := ce) (by rw [hT]; exact hcell) (by rw [hv]; rfl)
    (by obtain ⟨k9, h9, -⟩ := Vm.findClass_spec hcl; exact ⟨k9, h9⟩) (fun z hz => by
      rcases hpass z hz with h | ⟨hz0, nm, hl1, hn1⟩
      · exact Or.inl h
      · obtain ⟨c6, hc6, hcl6⟩ := Cond.classLink_spec hown hl1 e.platform hpl
        obtain ⟨a8, b8, h1, h2, h3⟩ := hn1
        cases Option.some.inj (h1.symm.trans hcl)
        cases Option.some.inj (h2.symm.trans hc6)
        exact Or.inr ⟨hz0, _, hcl6, h3⟩)
  obtain ⟨g₀, hfr⟩ := X'.frames_eq
  have hcell9 : ((T.setVm vm').setFrames (.throwing q :: below)).heap[q]? = some ce := by
    show T.heap[q]? = some ce
    rw [hT]; exact hcell
  have hend : Ended ((T.setVm vm').setFrames (.throwing q :: below)) below (.threw q) := State.frames_setFrames _ (State.cur_lt_of_frames hfr)
  refine ⟨(T.setVm vm').setFrames (.throwing q :: below), ?_, .threw q, X'.here.running, hend, Or.inr ⟨q, rfl, E, ce, locs, hx _ hT (X'.ends _).1.alike, hcell9, hv, hcl, (X'.ends _).1, (X'.ends _).2.mono hc hs, hf⟩⟩
  rw [X.pushThrowing_eq]
  exact st
/-- a thing of a world lies in the heap -/
theorem vx_lt {D : va_G} {cl : List vw_C} {ws : va_W} {H1 : Heap} (h : va_P D cl ws H1) {k : Nat} {q : Nat × va_E} (hk : ws[k]? = some q) : q.1 < H1.size := (h k q hk).lt
end VXS
/-! ===== END ===== -/
/-! ===== BEGIN methods with a table of their own: called by a name, returning or throwing ===== -/
section VXH
/-! vx_backW, vx_callVX, vx_callSX, vx_callVW, vx_runVW, vx_runVX, vx_runSX, vx_ofWH follow the same proofs as their sisters above (Free/Laws.lean, Shelf42/LK1.lean); vx_outP calls Shelf42/NT130.lean (outThrough). -/
section
variable {l : Launch} {R : Room} {p : Program} {e : Env} {below : List Frame} {s : State} {sargs : Array Value} {y : MethodName} {len W9 : Nat}
theorem vx_backW {ws : List Cond} {rm : Room} {Pc : Array Value → State → Prop} {Qc : Array Value → State → Outcome → State → Prop} {XC : String → State → State → Prop} {mc ms : Nat} {free : Addr → Prop} {bytes : ByteArray} {maxL : Nat} {ret : Option FieldType} {hh : List (Nat × Nat × Nat × Nat)}
    (hM : vx_Met l y ws rm Pc Qc XC mc ms free) (hblind : FrameBlind Pc) (hrc : rm.cells = mc) (hrs : rm.slots = ms)
    (hframes : rm.frames + 1 ≤ R.frames) (hlocals : W9 + (maxL + 11) + rm.locals ≤ R.locals)
    (hws : ∀ w ∈ ws, ∀ a' U, s.WarmedH U.vm → w.before a' U = true) (hcode : Cond.codeWith y bytes maxL ret hh ∈ ws) (hinit : ∀ a' U, s.WarmedH U.vm → (Cond.initialized y.cls).before a' U = true) :
    vx_Back l R p e below s sargs y len W9 (PreOf R mc ms Pc) (PostOf Qc mc ms free) (vx_Post XC mc ms free) := by
  intro m meth c A g ig mk a X hg hsize hdg hW hn hp
  have h1 : (headSpec ws rm).pre.before a A.U = true := atoms_intro fun w hw => hws w hw _ _ X.warmed
  have h2 : (Cond.codeWith y bytes maxL ret hh).before a A.U = true := hws _ hcode _ _ X.warmed
  have h3 : (Cond.initialized y.cls).before a A.U = true := hinit _ _ X.warmed
  have h4 : A.cells + (headSpec ws rm).room.cells ≤ R.cells := by rw [show (headSpec ws rm).room.cells = mc from hrc]; exact hp.1
  have h5 : A.slots + (headSpec ws rm).room.slots ≤ R.slots := by rw [show (headSpec ws rm).room.slots = ms from hrs]; exact hp.2.1
  have hPc : Pc a (A.U.calling g mk a) := hblind _ _ _ _ hp.2.2
  obtain ⟨U, Ls, c0, s0⟩ := A
  dsimp only [Pt.U, Pt.locs, Pt.cells, Pt.slots] at h1 h2 h3 h4 h5 X hn hPc ⊢
  obtain ⟨m9, methY, cY, hn9, hmY, hcY, -, hlY, -⟩ := Cond.codeWith_spec h2
  cases Option.some.inj (hn9.symm.trans hn)
  obtain ⟨kY, hkY, -⟩ := className_of_methodNamed hn
  have hinitY : kY.init = .initialized := Cond.initialized_spec (findClass_of_methodNamed hn) hkY h3
  have h : At U g.method c below := by rw [hg]; exact X.here
  have hlocals9 : W9 + (maxL + 11) + (headSpec ws rm).room.locals ≤ R.locals := hlocals
  have happ : (headSpec ws rm).appliesLoose y e.platform (U.calling g mk a) = true :=
    Spec.appliesLoose_calling (g := g) h hdg hn hkY hinitY
      (X.room_calling (g := g) (R' := (headSpec ws rm).room) hsize hmY hcY hframes (by rw [hlY]; omega) h4 h5) h1
  obtain ⟨mid, hmid⟩ := h.above
  have hfr : (U.setTop g).frames = (.java g :: mid) ++ below := by rw [State.frames_setTop' g h.top, hmid]; rfl
  obtain ⟨o, s₂, hsteps, -, hend, hq⟩ := Steps.callFree hM p X.admits X.cas X.clock (acts := []) hfr happ hPc trivial
  have hq' : vx_Q Qc XC mc ms free a (U.calling g mk a) o s₂ := hq
  rw [State.frames_setTop' g h.top] at hend
  obtain ⟨g₀, hg0⟩ := Option.isSome_iff_exists.mp h.top
  obtain ⟨r, hr⟩ := State.topJava?_eq_some.mp hg0
  have hr' : (({ U with heap := s₂.heap, slotsUsed := s₂.slotsUsed } : State).setVm s₂.vm).frames = .java g₀ :: r := hr
  rcases hq' with ⟨hqc, L, hfe, hL⟩ | ⟨q, rfl, E, ce, L, hx, hce, hcv, hcl, hW₂, hsm, hL⟩
  · obtain ⟨⟨v, rfl⟩, hW₂, e2, q2, q3, q4, q5, q6⟩ := id hfe
    have e3 : s₂ = ({ (U.calling g mk a).setFrames s₂.frames with heap := s₂.heap, slotsUsed := s₂.slotsUsed } : State).setVm s₂.vm := by
      have : s₂ = ({ s₂ with vm := (U.calling g mk a).vm } : State).setVm s₂.vm := rfl
      rw [e2] at this
      exact this
    obtain ⟨c₂, i₂, len₂, hc₂, hd₂, hf₂⟩ := hend
    have hW' : U.WarmedH s₂.vm := hW₂
    have hcc : c₂ = c := by
      have h1 : s₂.code? g.method = U.code? g.method := by
        rw [State.code?_eq, State.code?_eq, hW'.alike.method?]
      exact Option.some.inj (hc₂.symm.trans (h1.trans h.code))
    subst hcc
    have hlen : len₂ = len := by rw [hdg] at hd₂; cases hd₂; rfl
    subst hlen
    have hs₂ : s₂ = (({ U with heap := s₂.heap, slotsUsed := s₂.slotsUsed } : State).setVm s₂.vm).setTop { g with pc := g.pc + len₂, stack := v.toList ++ g.stack } := by
      refine e3.trans ?_
      rw [hf₂, State.calling_eq h.top, State.setFrames_setFrames, State.setTop_of_frames _ hr', hr]
      rfl
    have hsame : U.sameButNew ({ U with heap := s₂.heap, slotsUsed := s₂.slotsUsed } : State) L mc ms := by
      refine ⟨?_, q2, q3, q4, q5, q6⟩
      obtain ⟨t, ht, -⟩ := State.frames_cons hr
      show ({ U with heap := s₂.heap, slotsUsed := s₂.slotsUsed } : State) = { U.setFrames U.frames with heap := s₂.heap, slotsUsed := s₂.slotsUsed }
      rw [State.setFrames_self ht]
    subst hg
    refine Or.inl ⟨v, ⟨(({ U with heap := s₂.heap, slotsUsed := s₂.slotsUsed } : State).setVm s₂.vm), Ls ++ L, c0 + mc, s0 + ms⟩,
      ⟨X.admits, X.cas, X.clock, X.frames, X.room, X.hears, X.method, X.code, (X.here.setHeapUsed s₂.heap s₂.slotsUsed).setVm hW'.alike, X.tail, State.WarmedH.trans X.warmed hW', X.limits, X.bytes, X.same.trans (hsame.setVm s.vm)⟩,
      ⟨g, mk, s₂, L, rfl, rfl, hqc, rfl, hL, rfl, rfl⟩, ?_⟩
    show Steps p.tables e below _ ((({ U with heap := s₂.heap, slotsUsed := s₂.slotsUsed } : State).setVm s₂.vm).setTop { g with pc := g.pc + len₂, stack := v.toList ++ g.stack })
    rw [← hs₂]
    exact hsteps
  · obtain ⟨e2, q2, q3, q4, q5, q6⟩ := id hsm
    have e3 : s₂ = ({ (U.calling g mk a).setFrames s₂.frames with heap := s₂.heap, slotsUsed := s₂.slotsUsed } : State).setVm s₂.vm := by
      have : s₂ = ({ s₂ with vm := (U.calling g mk a).vm } : State).setVm s₂.vm := rfl
      rw [e2] at this
      exact this
    have hf₂ : s₂.frames = .throwing q :: .java g :: U.frames.tail := hend
    have hW' : U.WarmedH s₂.vm := hW₂
    have hs₂ : s₂ = ((({ U with heap := s₂.heap, slotsUsed := s₂.slotsUsed } : State).setVm s₂.vm).setTop g).pushFrame (.throwing q) := by
      refine e3.trans ?_
      rw [hf₂, State.calling_eq h.top, State.setFrames_setFrames, State.pushFrame, State.frames_setTop _ hr', State.setTop_of_frames _ hr', State.setFrames_setFrames, hr]
      rfl
    have hsame : U.sameButNew ({ U with heap := s₂.heap, slotsUsed := s₂.slotsUsed } : State) L mc ms := by
      refine ⟨?_, q2, q3, q4, q5, q6⟩
      obtain ⟨t, ht, -⟩ := State.frames_cons hr
      show ({ U with heap := s₂.heap, slotsUsed := s₂.slotsUsed } : State) = { U.setFrames U.frames with heap := s₂.heap, slotsUsed := s₂.slotsUsed }
      rw [State.setFrames_self ht]
    subst hg
    refine Or.inr ⟨q, ⟨(({ U with heap := s₂.heap, slotsUsed := s₂.slotsUsed } : State).setVm s₂.vm), Ls ++ L, c0 + mc, s0 + ms⟩,
      ⟨X.admits, X.cas, X.clock, X.frames, X.room, X.hears, X.method, X.code, (X.here.setHeapUsed s₂.heap s₂.slotsUsed).setVm hW'.alike, X.tail, State.WarmedH.trans X.warmed hW', X.limits, X.bytes, X.same.trans (hsame.setVm s.vm)⟩,
      ⟨g, mk, s₂, L, E, ce, rfl, rfl, hx, hce, hcv, hcl, rfl, hL, rfl, rfl⟩, ?_⟩
    show Steps p.tables e below _ (((({ U with heap := s₂.heap, slotsUsed := s₂.slotsUsed } : State).setVm s₂.vm).setTop g).pushFrame (.throwing q))
    rw [← hs₂]
    exact hsteps
end
variable {p : Program} {l : Launch} {e : Env} {R : Room} {s : State} {m : MethodId} {args : Array Value} {below : List Frame} {meth : Method} {c : Code} {T : State} {H : Heap} {locs : List Loc} {cells slots : Nat}
theorem vx_callVX (X : Stand p l e R s m args below meth c T locs cells slots) (hexec : p.tables.exec = Jvm.exec) {own C : String} {index : Nat} {y : MethodName} {bytes : ByteArray} {maxL : Nat} {ret : Option FieldType} {hh : List (Nat × Nat × Nat × Nat)}
    (hown : s.vm.findClass own = some m.cls) (hlink : (Cond.methodLink own index y).before args s = true) (hinst : (Cond.instanceMethod y).before args s = true) (hsel : (Cond.selects C y y).before args s = true)
    (hcode : (Cond.codeWith y bytes maxL ret hh).before args s = true) (hy : y.cls ≠ "java/lang/invoke/MethodHandle" ∧ y.cls ≠ "java/lang/invoke/VarHandle")
    {W9 : Nat} {Pre : Pt → Array Value → Prop} {Post : Pt → Array Value → Option Value → Pt → Prop} {PostX : Pt → Array Value → Addr → Pt → Prop} (hK : vx_Back l R p e below s args y 3 W9 Pre Post PostX)
    {b : Addr} {cellB : Cell} (hcell : T.heap[b]? = some cellB) (hobj : cellB.vm.isStatics = false) (hcls : s.vm.findClass C = some cellB.cls)
    {g : JFrame} (hg : g.method = m) (hsize : g.locals.size = c.maxLocals) {argsL rest : List Value} (hlen : ∀ sig, parseMethodDescriptor y.desc = some sig → argsL.length = sig.parameters.length)
    (hstack : g.stack = argsL.reverse ++ .ref b :: rest) (hW : 2 * g.monitorRoom + (rest.map fun v => v.category).sum ≤ W9) (hdg : decode c.code g.pc = .ok (.invokevirtual index, 3))
    (hpre : ∀ vm₁, s.WarmedH vm₁ → Pre ⟨T.setVm vm₁, locs, cells, slots⟩ (Value.ref b :: argsL).toArray) :
    (∃ (v : Option Value) (vm₁ : Vm) (B : Pt), s.WarmedH vm₁ ∧ Stand p l e R s m args below meth c B.U B.locs B.cells B.slots ∧ Post ⟨T.setVm vm₁, locs, cells, slots⟩ (Value.ref b :: argsL).toArray v B ∧
      ∀ target, Steps p.tables e below (B.U.setTop { g with pc := g.pc + 3, stack := v.toList ++ rest }) target → Steps p.tables e below (T.setTop g) target) ∨
    (∃ (q : Addr) (vm₁ : Vm) (B : Pt), s.WarmedH vm₁ ∧ Stand p l e R s m args below meth c B.U B.locs B.cells B.slots ∧ PostX ⟨T.setVm vm₁, locs, cells, slots⟩ (Value.ref b :: argsL).toArray q B ∧
      Steps p.tables e below (T.setTop g) ((B.U.setTop { g with stack := rest }).pushFrame (.throwing q))) := by
  obtain ⟨mk, methM, hnamed, hmethM, hstM, habM⟩ := Cond.instanceMethod_spec hinst
  obtain ⟨m8, methM', cM, hn8, hmethM', -, -, -, -, -, -, hsigM⟩ := Cond.codeWith_spec hcode
  cases Option.some.inj (hn8.symm.trans hnamed)
  cases hmethM.symm.trans hmethM'
  obtain ⟨c2, r2, m2, q1, q2, q3, q4, kP, hkP, hkPi⟩ := Cond.selects_spec hsel
  cases hcls.symm.trans q1
  cases (State.methodFound?_of_named hnamed hy).symm.trans q2
  cases hnamed.symm.trans q3
  have hselP : selectMethod e.platform s.vm cellB.cls mk = .method mk := by rw [Launch.admits_selectMethod X.admits]; exact q4
  obtain ⟨vm₁, X₁, hstep₁⟩ := X.invokevirtual hexec hown hlink hnamed hmethM hstM hkP hkPi hy (a := b) (cell := cellB) hcell
    (fun z h => by rw [h] at hobj; cases hobj) hselP hmethM habM hkP hkPi (g := g) hg (argsL := argsL) (rest := rest) (hlen _ hsigM) hstack hdg
  rcases hK m meth c ⟨T.setVm vm₁, locs, cells, slots⟩ { g with stack := rest } (.invokevirtual index) mk (Value.ref b :: argsL).toArray X₁ hg hsize hdg hW (X₁.named hnamed) (hpre vm₁ X₁.warmed) with ⟨v, B, X', hpost, hsteps⟩ | ⟨q, B, X', hpost, hsteps⟩
  · exact Or.inl ⟨v, vm₁, B, X₁.warmed, X', hpost, fun target h => hstep₁ _ fun acts => by rw [doInvoke_state]; exact hsteps.trans h⟩
  · exact Or.inr ⟨q, vm₁, B, X₁.warmed, X', hpost, hstep₁ _ fun acts => by rw [doInvoke_state]; exact hsteps⟩
theorem vx_callSX (X : Stand p l e R s m args below meth c T locs cells slots) (hexec : p.tables.exec = Jvm.exec) {own : String} {index : Nat} {y : MethodName} {bytes : ByteArray} {maxL : Nat} {ret : Option FieldType} {hh : List (Nat × Nat × Nat × Nat)}
    (hown : s.vm.findClass own = some m.cls) (hlink : (Cond.methodLink own index y).before args s = true) (hstat : (Cond.static y).before args s = true) (hinit : (Cond.initialized y.cls).before args s = true)
    (hcode : (Cond.codeWith y bytes maxL ret hh).before args s = true) (hy : y.cls ≠ "java/lang/invoke/MethodHandle" ∧ y.cls ≠ "java/lang/invoke/VarHandle")
    {W9 : Nat} {Pre : Pt → Array Value → Prop} {Post : Pt → Array Value → Option Value → Pt → Prop} {PostX : Pt → Array Value → Addr → Pt → Prop} (hK : vx_Back l R p e below s args y 3 W9 Pre Post PostX)
    {g : JFrame} (hg : g.method = m) (hsize : g.locals.size = c.maxLocals) {argsL rest : List Value} (hlen : ∀ sig, parseMethodDescriptor y.desc = some sig → argsL.length = sig.parameters.length)
    (hstack : g.stack = argsL.reverse ++ rest) (hW : 2 * g.monitorRoom + (rest.map fun v => v.category).sum ≤ W9) (hdg : decode c.code g.pc = .ok (.invokestatic index, 3))
    (hpre : ∀ vm₁, s.WarmedH vm₁ → Pre ⟨T.setVm vm₁, locs, cells, slots⟩ argsL.toArray) :
    (∃ (v : Option Value) (vm₁ : Vm) (B : Pt), s.WarmedH vm₁ ∧ Stand p l e R s m args below meth c B.U B.locs B.cells B.slots ∧ Post ⟨T.setVm vm₁, locs, cells, slots⟩ argsL.toArray v B ∧
      ∀ target, Steps p.tables e below (B.U.setTop { g with pc := g.pc + 3, stack := v.toList ++ rest }) target → Steps p.tables e below (T.setTop g) target) ∨
    (∃ (q : Addr) (vm₁ : Vm) (B : Pt), s.WarmedH vm₁ ∧ Stand p l e R s m args below meth c B.U B.locs B.cells B.slots ∧ PostX ⟨T.setVm vm₁, locs, cells, slots⟩ argsL.toArray q B ∧
      Steps p.tables e below (T.setTop g) ((B.U.setTop { g with stack := rest }).pushFrame (.throwing q))) := by
  obtain ⟨mk, methM, cM, hnamed, hmethM, -, -, -, -, -, -, hsigM⟩ := Cond.codeWith_spec hcode
  have hstatic : methM.isStatic = true := Cond.static_spec hnamed hmethM hstat
  obtain ⟨kP, hkP, -⟩ := className_of_methodNamed hnamed
  have hinitP : kP.init = .initialized := Cond.initialized_spec (findClass_of_methodNamed hnamed) hkP hinit
  obtain ⟨vm₁, X₁, hstep₁⟩ := X.invokestatic hexec hown hlink hnamed hmethM hstatic hkP hinitP hy (g := g) hg (argsL := argsL) (rest := rest) (hlen _ hsigM) hstack hdg
  rcases hK m meth c ⟨T.setVm vm₁, locs, cells, slots⟩ { g with stack := rest } (.invokestatic index) mk argsL.toArray X₁ hg hsize hdg hW (X₁.named hnamed) (hpre vm₁ X₁.warmed) with ⟨v, B, X', hpost, hsteps⟩ | ⟨q, B, X', hpost, hsteps⟩
  · exact Or.inl ⟨v, vm₁, B, X₁.warmed, X', hpost, fun target h => hstep₁ _ fun acts => by rw [doInvoke_state]; exact hsteps.trans h⟩
  · exact Or.inr ⟨q, vm₁, B, X₁.warmed, X', hpost, hstep₁ _ fun acts => by rw [doInvoke_state]; exact hsteps⟩
theorem vx_callVW (X : Stand p l e R s m args below meth c T locs cells slots) (hexec : p.tables.exec = Jvm.exec) {own C : String} {index : Nat} {y : MethodName} {bytes : ByteArray} {maxL : Nat} {ret : Option FieldType} {hh : List (Nat × Nat × Nat × Nat)}
    (hown : s.vm.findClass own = some m.cls) (hlink : (Cond.methodLink own index y).before args s = true) (hinst : (Cond.instanceMethod y).before args s = true) (hsel : (Cond.selects C y y).before args s = true)
    (hcode : (Cond.codeWith y bytes maxL ret hh).before args s = true) (hy : y.cls ≠ "java/lang/invoke/MethodHandle" ∧ y.cls ≠ "java/lang/invoke/VarHandle")
    {W9 : Nat} {Pre : Pt → Array Value → Prop} {Post : Pt → Array Value → Option Value → Pt → Prop} (hK : Back l R p e below s args y 3 W9 Pre Post)
    {b : Addr} {cellB : Cell} (hcell : T.heap[b]? = some cellB) (hobj : cellB.vm.isStatics = false) (hcls : s.vm.findClass C = some cellB.cls)
    {g : JFrame} (hg : g.method = m) (hsize : g.locals.size = c.maxLocals) {argsL rest : List Value} (hlen : ∀ sig, parseMethodDescriptor y.desc = some sig → argsL.length = sig.parameters.length)
    (hstack : g.stack = argsL.reverse ++ .ref b :: rest) (hW : 2 * g.monitorRoom + (rest.map fun v => v.category).sum ≤ W9) (hdg : decode c.code g.pc = .ok (.invokevirtual index, 3))
    (hpre : ∀ vm₁, s.WarmedH vm₁ → Pre ⟨T.setVm vm₁, locs, cells, slots⟩ (Value.ref b :: argsL).toArray) :
    ∃ (v : Option Value) (vm₁ : Vm) (B : Pt), s.WarmedH vm₁ ∧ Stand p l e R s m args below meth c B.U B.locs B.cells B.slots ∧ Post ⟨T.setVm vm₁, locs, cells, slots⟩ (Value.ref b :: argsL).toArray v B ∧
      ∀ target, Steps p.tables e below (B.U.setTop { g with pc := g.pc + 3, stack := v.toList ++ rest }) target → Steps p.tables e below (T.setTop g) target := by
  obtain ⟨mk, methM, hnamed, hmethM, hstM, habM⟩ := Cond.instanceMethod_spec hinst
  obtain ⟨m8, methM', cM, hn8, hmethM', -, -, -, -, -, -, hsigM⟩ := Cond.codeWith_spec hcode
  cases Option.some.inj (hn8.symm.trans hnamed)
  cases hmethM.symm.trans hmethM'
  obtain ⟨c2, r2, m2, q1, q2, q3, q4, kP, hkP, hkPi⟩ := Cond.selects_spec hsel
  cases hcls.symm.trans q1
  cases (State.methodFound?_of_named hnamed hy).symm.trans q2
  cases hnamed.symm.trans q3
  have hselP : selectMethod e.platform s.vm cellB.cls mk = .method mk := by rw [Launch.admits_selectMethod X.admits]; exact q4
  obtain ⟨vm₁, X₁, hstep₁⟩ := X.invokevirtual hexec hown hlink hnamed hmethM hstM hkP hkPi hy (a := b) (cell := cellB) hcell
    (fun z h => by rw [h] at hobj; cases hobj) hselP hmethM habM hkP hkPi (g := g) hg (argsL := argsL) (rest := rest) (hlen _ hsigM) hstack hdg
  obtain ⟨v, B, X', hpost, hsteps⟩ := hK m meth c ⟨T.setVm vm₁, locs, cells, slots⟩ { g with stack := rest } (.invokevirtual index) mk (Value.ref b :: argsL).toArray X₁ hg hsize hdg hW (X₁.named hnamed) (hpre vm₁ X₁.warmed)
  exact ⟨v, vm₁, B, X₁.warmed, X', hpost, fun target h => hstep₁ _ fun acts => by rw [doInvoke_state]; exact hsteps.trans h⟩
abbrev vx_CVW (R : Room) (s : State) (args : Array Value) (own C : String) (index : Nat) (y : MethodName) (bytes : ByteArray) (maxL : Nat) (ret : Option FieldType) (hh : List (Nat × Nat × Nat × Nat)) (ws : List Cond) (rm : Room) (mc ms n : Nat) : Prop :=
  (rm.cells = mc ∧ rm.slots = ms ∧ rm.frames + 1 ≤ R.frames ∧ 8 + (maxL + 11) + rm.locals ≤ R.locals ∧ (∀ w ∈ ws, ∀ (a' : Array Value) (U : State), s.WarmedH U.vm → w.before a' U = true) ∧ Cond.codeWith y bytes maxL ret hh ∈ ws) ∧
  (Cond.codeWith y bytes maxL ret hh).before args s = true ∧ (Cond.initialized y.cls).before args s = true ∧ (y.cls ≠ "java/lang/invoke/MethodHandle" ∧ y.cls ≠ "java/lang/invoke/VarHandle") ∧
  (∀ sig, parseMethodDescriptor y.desc = some sig → n = sig.parameters.length) ∧ (Cond.methodLink own index y).before args s = true ∧ (Cond.instanceMethod y).before args s = true ∧ (Cond.selects C y y).before args s = true
theorem vx_cwVW {own C : String} {index maxL mc ms : Nat} {y : MethodName} {bytes : ByteArray} {ret : Option FieldType} {hh : List (Nat × Nat × Nat × Nat)} {Ts ws ws' : List Cond} {rm : Room} (n : Nat) (ht : ∀ w ∈ Ts, w.before args s = true) (hT : GoodIn Ts (wsV own index C y ws)) (hw : ws = Cond.codeWith y bytes maxL ret hh :: ws') (hrc : rm.cells = mc) (hrs : rm.slots = ms)
    (hd : y.cls = C ∧ y.cls ≠ "java/lang/invoke/MethodHandle" ∧ y.cls ≠ "java/lang/invoke/VarHandle" ∧ (parseMethodDescriptor y.desc).map (fun d => d.parameters.length) = some n) (hR : rm.frames + 1 ≤ R.frames ∧ 8 + (maxL + 11) + rm.locals ≤ R.locals) :
    vx_CVW R s args own C index y bytes maxL ret hh ws rm mc ms n := by
  obtain ⟨hC, hd⟩ := hd
  subst hC
  have ok : ∀ w ∈ wsV own index y.cls y ws, w.before args s = true := fun w h => ht w (hT w h).1
  have hG : GoodIn Ts ws := fun w h => hT w (by unfold wsV; exact List.mem_append_right _ h)
  have hc : Cond.codeWith y bytes maxL ret hh ∈ ws := by rw [hw]; exact List.mem_cons_self
  refine ⟨⟨hrc, hrs, hR.1, hR.2, pay_in ht hG, hc⟩, ht _ (hG _ hc).1, ok _ (by simp [wsV]), ⟨hd.1, hd.2.1⟩, fun sig h => ?_, ok _ (by simp [wsV]), ok _ (by simp [wsV]), ok _ (by simp [wsV])⟩
  have h2 := hd.2.2
  rw [h] at h2
  exact (Option.some.inj h2).symm
theorem vx_runVW {y : MethodName} {bytes cc : ByteArray} {maxL nL mc ms n index : Nat} {ret : Option FieldType} {hh : List (Nat × Nat × Nat × Nat)} {ws : List Cond} {rm : Room} {Pc : Array Value → State → Prop} {Qc : Array Value → State → Outcome → State → Prop} {free : Addr → Prop} {Ts : List Cond} {own C : String} {b : Addr} {As rest : List Value} {g : JFrame}
    (S : CallFix p m c cc nL s args Ts own) (hM : Met l y ws rm Pc Qc mc ms free) (cw : vx_CVW R s args own C index y bytes maxL ret hh ws rm mc ms n) (hp : PreV s H C b Pc As)
    (hg : g.method = m) (hn : As.length = n) (hsize : g.locals.size = nL) (hstack : g.stack = As.reverse ++ .ref b :: rest) (hW : 2 * g.monitorRoom + (rest.map fun v => v.category).sum ≤ 8) (hdg : decode cc g.pc = .ok (.invokevirtual index, 3)) (hf : cells + mc ≤ R.cells ∧ slots + ms ≤ R.slots) :
    va_Run p l e R s m args below meth c H locs cells slots mc ms g rest (Qc (Value.ref b :: As).toArray) free := by
  obtain ⟨⟨hrc, hrs, hfr, hlo, hws, hcw⟩, hcode, hini, hy, hlen, hl, hin, hse⟩ := cw
  have hK : Back l R p e below s args y 3 8 (PreOf R mc ms Pc) (PostOf Qc mc ms free) := va_backW (hh := hh) (bytes := bytes) (maxL := maxL) (ret := ret) hM hp.1 hrc hrs hfr hlo hws hcw (fun a' U hW => word_at hW (Or.inl (by first | rfl | simp [Cond.onTables, Cond.keeps, Cond.steady])) hini)
  obtain ⟨hx, hb, hml, ho, -⟩ := S
  obtain ⟨-, ⟨cellB, hcB, hoB, hclB⟩, hPc⟩ := hp
  intro T hT X
  obtain ⟨v, vm₁, ⟨U', l2, c2, s2⟩, hW₁, X', ⟨g', mk, t, L, e1, e2, hq, h1, hL, h2, h3⟩, st⟩ := vx_callVW X hx (C := C) (hh := hh) (bytes := bytes) (maxL := maxL) (ret := ret) ho hl hin hse hcode hy hK (by rw [hT]; exact hcB) hoB hclB hg (hsize.trans hml.symm) (argsL := As) (rest := rest) (fun sig h => hn.trans (hlen sig h)) hstack hW (by rw [hb]; exact hdg)
    (fun vm₁ hW₁ => ⟨hf.1, hf.2, hPc (T.setVm vm₁) hT hW₁⟩)
  dsimp only [Pt.U, Pt.locs, Pt.cells, Pt.slots] at X' e1 e2 h1 h2 h3 st
  subst h1; subst h2; subst h3
  exact ⟨v, (T.setVm vm₁).calling g' mk (Value.ref b :: As).toArray, t, U', L, hT, X', hL, e1, e2, hq, st⟩
section
variable {y : MethodName} {bytes cc : ByteArray} {maxL nL mc ms n index : Nat} {ret : Option FieldType} {ws : List Cond} {rm : Room} {Pc : Array Value → State → Prop} {Qc : Array Value → State → Outcome → State → Prop} {XC : String → State → State → Prop} {free : Addr → Prop} {Ts : List Cond} {own C : String} {b : Addr} {As rest : List Value} {g : JFrame}
theorem vx_runVX {hh : List (Nat × Nat × Nat × Nat)} (S : CallFix p m c cc nL s args Ts own) (hM : vx_Met l y ws rm Pc Qc XC mc ms free) (cw : vx_CVW R s args own C index y bytes maxL ret hh ws rm mc ms n) (hp : PreV s H C b Pc As)
    (hg : g.method = m) (hn : As.length = n) (hsize : g.locals.size = nL) (hstack : g.stack = As.reverse ++ .ref b :: rest) (hW : 2 * g.monitorRoom + (rest.map fun v => v.category).sum ≤ 8) (hdg : decode cc g.pc = .ok (.invokevirtual index, 3)) (hf : cells + mc ≤ R.cells ∧ slots + ms ≤ R.slots) :
    vx_Run p l e R s m args below meth c H locs cells slots mc ms g rest (Qc (Value.ref b :: As).toArray) XC free := by
  obtain ⟨⟨hrc, hrs, hfr, hlo, hws, hcw⟩, hcode, hini, hy, hlen, hl, hin, hse⟩ := cw
  have hK : vx_Back l R p e below s args y 3 8 (PreOf R mc ms Pc) (PostOf Qc mc ms free) (vx_Post XC mc ms free) := vx_backW (hh := hh) (bytes := bytes) (maxL := maxL) (ret := ret) hM hp.1 hrc hrs hfr hlo hws hcw (fun a' U hW => word_at hW (Or.inl (by first | rfl | simp [Cond.onTables, Cond.keeps, Cond.steady])) hini)
  obtain ⟨hx, hb, hml, ho, -⟩ := S
  obtain ⟨-, ⟨cellB, hcB, hoB, hclB⟩, hPc⟩ := hp
  intro T hT X
  rcases vx_callVX X hx (C := C) (hh := hh) (bytes := bytes) (maxL := maxL) (ret := ret) ho hl hin hse hcode hy hK (by rw [hT]; exact hcB) hoB hclB hg (hsize.trans hml.symm) (argsL := As) (rest := rest) (fun sig h => hn.trans (hlen sig h)) hstack hW (by rw [hb]; exact hdg)
    (fun vm₁ hW₁ => ⟨hf.1, hf.2, hPc (T.setVm vm₁) hT hW₁⟩) with ⟨v, vm₁, ⟨U', l2, c2, s2⟩, hW₁, X', ⟨g', mk, t, L, e1, e2, hq, h1, hL, h2, h3⟩, st⟩ | ⟨q, vm₁, ⟨U', l2, c2, s2⟩, hW₁, X', ⟨g', mk, t, L, E, ce, e1, e2, hq, hce, hcv, hcl, h1, hL, h2, h3⟩, st⟩
  · dsimp only [Pt.U, Pt.locs, Pt.cells, Pt.slots] at X' e1 e2 h1 h2 h3 st
    subst h1; subst h2; subst h3
    exact Or.inl ⟨v, (T.setVm vm₁).calling g' mk (Value.ref b :: As).toArray, t, U', L, hT, X', hL, e1, e2, hq, st⟩
  · dsimp only [Pt.U, Pt.locs, Pt.cells, Pt.slots] at X' e1 e2 h1 h2 h3 st hcl
    subst h1; subst h2; subst h3
    exact Or.inr ⟨q, (T.setVm vm₁).calling g' mk (Value.ref b :: As).toArray, t, U', L, E, ce, hT, X', hL, e1, e2, hq, hce, hcv, vx_cls hW₁ hcl, st⟩
theorem vx_runSX {hh : List (Nat × Nat × Nat × Nat)} (S : CallFix p m c cc nL s args Ts own) (hM : vx_Met l y ws rm Pc Qc XC mc ms free) (cw : vx_CSW R s args own index y bytes maxL ret hh ws rm mc ms n) (hp : PreS s H Pc As)
    (hg : g.method = m) (hn : As.length = n) (hsize : g.locals.size = nL) (hstack : g.stack = As.reverse ++ rest) (hW : 2 * g.monitorRoom + (rest.map fun v => v.category).sum ≤ 8) (hdg : decode cc g.pc = .ok (.invokestatic index, 3)) (hf : cells + mc ≤ R.cells ∧ slots + ms ≤ R.slots) :
    vx_Run p l e R s m args below meth c H locs cells slots mc ms g rest (Qc As.toArray) XC free := by
  obtain ⟨⟨hrc, hrs, hfr, hlo, hws, hcw⟩, hcode, hini, hy, hlen, hl, hstt⟩ := cw
  have hK : vx_Back l R p e below s args y 3 8 (PreOf R mc ms Pc) (PostOf Qc mc ms free) (vx_Post XC mc ms free) := vx_backW (hh := hh) (bytes := bytes) (maxL := maxL) (ret := ret) hM hp.1 hrc hrs hfr hlo hws hcw (fun a' U hW => word_at hW (Or.inl (by first | rfl | simp [Cond.onTables, Cond.keeps, Cond.steady])) hini)
  obtain ⟨hx, hb, hml, ho, -⟩ := S
  intro T hT X
  rcases vx_callSX X hx (hh := hh) (bytes := bytes) (maxL := maxL) (ret := ret) ho hl hstt hini hcode hy hK hg (hsize.trans hml.symm) (argsL := As) (rest := rest) (fun sig h => hn.trans (hlen sig h)) hstack hW (by rw [hb]; exact hdg)
    (fun vm₁ hW₁ => ⟨hf.1, hf.2, hp.2 (T.setVm vm₁) hT hW₁⟩) with ⟨v, vm₁, ⟨U', l2, c2, s2⟩, hW₁, X', ⟨g', mk, t, L, e1, e2, hq, h1, hL, h2, h3⟩, st⟩ | ⟨q, vm₁, ⟨U', l2, c2, s2⟩, hW₁, X', ⟨g', mk, t, L, E, ce, e1, e2, hq, hce, hcv, hcl, h1, hL, h2, h3⟩, st⟩
  · dsimp only [Pt.U, Pt.locs, Pt.cells, Pt.slots] at X' e1 e2 h1 h2 h3 st
    subst h1; subst h2; subst h3
    exact Or.inl ⟨v, (T.setVm vm₁).calling g' mk As.toArray, t, U', L, hT, X', hL, e1, e2, hq, st⟩
  · dsimp only [Pt.U, Pt.locs, Pt.cells, Pt.slots] at X' e1 e2 h1 h2 h3 st hcl
    subst h1; subst h2; subst h3
    exact Or.inr ⟨q, (T.setVm vm₁).calling g' mk As.toArray, t, U', L, E, ce, hT, X', hL, e1, e2, hq, hce, hcv, vx_cls hW₁ hcl, st⟩
end
end VXH
theorem vx_ofWH {l : Launch} {y : MethodName} {ws ws' : List Cond} {rm : Room} {Pc : Array Value → State → Prop} {Qc : Array Value → State → Outcome → State → Prop} {XC : String → State → State → Prop} {mc ms : Nat} {free : Addr → Prop} {cc : ByteArray} {maxL : Nat} {ret : Option FieldType} {hh : List (Nat × Nat × Nat × Nat)}
    (hy : plainName y.cls = true) (hw : ws = Cond.codeWith y cc maxL ret hh :: ws')
    (body : ∀ p e s m args below meth c s₁, BodyLoose p l y (headSpec ws rm) cc maxL ret e s m args below meth c s₁ → c.maxLocals = maxL → Pc args s →
      W p l e (headSpec ws rm).room s m args below meth c s.heap [] 0 0 (vx_MQ below Qc XC args s mc ms free) (entryFrame m args maxL)) : vx_Met l y ws rm Pc Qc XC mc ms free := by
  refine MetFree.of_bodyS (code := cc) (maxLocals := maxL) (ret := ret) hy ?_ ?_
  · intro args s m h hn
    obtain ⟨m9, meth, c, hn9, h1, h2, h3, h4, -, h5, h6, -⟩ := Cond.codeWith_spec (atoms_spec (ws := ws) h _ (by rw [hw]; exact List.mem_cons_self))
    cases hn.symm.trans hn9
    exact ⟨meth, c, h1, h2, h3, h4, h5, h6⟩
  · intro p e s m args below meth c s₁ B hml hP _
    have hh0 : s₁.heap = s.heap := by rw [B.state]; rfl
    obtain ⟨t, a1, o, b1, b2, b3⟩ := body p e s m args below meth c s₁ B hml hP s₁ hh0 (Stand.of_body B)
    exact ⟨t, o, a1, b1, b2, b3⟩
/-! ===== END ===== -/
end
section
/-! ===== BEGIN printed: names, fields, word lists, decode rows ===== -/
def RX0 : String := "DoorBench$Spans"
def TX0 : u_T := fun k => match k with
  | 0 => ("DoorBench$Spans", "lows", "[I", true)
  | _ => ("DoorBench$Spans", "highs", "[I", true)
def tyX0 : Nat → FieldType := fun k => match k with
  | 0 => .array .int
  | _ => .array .int
abbrev wsX00 : List Cond := u_ws RX0 TX0 2
theorem nmX0 : ∀ a, a < 2 → ∀ b, b < 2 → a ≠ b → (TX0 a).2.1 ≠ (TX0 b).2.1 := by decide +kernel
theorem tyX0_ok : ∀ k, k < 2 → parseFieldDescriptor (TX0 k).2.2.1 = some (tyX0 k) := by decide +kernel
abbrev cX0_init : ByteArray := prog_2_method_1_code
def yX0_init : MethodName := ⟨RX0, "<init>", "()V"⟩
abbrev cX0_at : ByteArray := prog_2_method_2_code
def yX0_at : MethodName := ⟨RX0, "at", "(II)I"⟩
abbrev cX0_low : ByteArray := prog_2_method_3_code
def yX0_low : MethodName := ⟨RX0, "low", "(II)I"⟩
abbrev cX0_high : ByteArray := prog_2_method_4_code
def yX0_high : MethodName := ⟨RX0, "high", "(II)I"⟩
abbrev cX0_put : ByteArray := prog_2_method_5_code
def yX0_put : MethodName := ⟨RX0, "put", "(IIII)V"⟩
abbrev cX0_widen : ByteArray := prog_2_method_6_code
def yX0_widen : MethodName := ⟨RX0, "widen", "(IIII)V"⟩
abbrev cX0_cut : ByteArray := prog_2_method_7_code
def yX0_cut : MethodName := ⟨RX0, "cut", "(IIII)V"⟩
abbrev cX0_putSum : ByteArray := prog_2_method_8_code
def yX0_putSum : MethodName := ⟨RX0, "putSum", "(III)V"⟩
abbrev cX0_cutByDifference : ByteArray := prog_2_method_9_code
def yX0_cutByDifference : MethodName := ⟨RX0, "cutByDifference", "(III)V"⟩
abbrev cX0_tighten : ByteArray := prog_2_method_10_code
def yX0_tighten : MethodName := ⟨RX0, "tighten", "(I)Z"⟩
abbrev cX0_isSpan : ByteArray := prog_2_method_11_code
def yX0_isSpan : MethodName := ⟨RX0, "isSpan", "(II)Z"⟩
def RX1 : String := "DoorBench"
def TX1 : u_T := fun k => match k with
  | 0 => ("DoorBench", "kinds", "[I", true)
  | 1 => ("DoorBench", "misses", "[I", true)
  | 2 => ("DoorBench", "doubles", "[I", true)
  | 3 => ("DoorBench", "caps", "[I", true)
  | 4 => ("DoorBench", "toldIn", "[I", true)
  | 5 => ("DoorBench", "toldOut", "[I", true)
  | 6 => ("DoorBench", "startLow", "[I", true)
  | 7 => ("DoorBench", "startHigh", "[I", true)
  | 8 => ("DoorBench", "checkTime", "[I", true)
  | 9 => ("DoorBench", "checkWhat", "[I", true)
  | 10 => ("DoorBench", "checkLow", "[I", true)
  | 11 => ("DoorBench", "checkHigh", "[I", true)
  | 12 => ("DoorBench", "spans", "LDoorBench$Spans;", true)
  | 13 => ("DoorBench", "ticks", "I", false)
  | 14 => ("DoorBench", "doors", "I", false)
  | _ => ("DoorBench", "checks", "I", false)
def tyX1 : Nat → FieldType := fun k => match k with
  | 0 => .array .int
  | 1 => .array .int
  | 2 => .array .int
  | 3 => .array .int
  | 4 => .array .int
  | 5 => .array .int
  | 6 => .array .int
  | 7 => .array .int
  | 8 => .array .int
  | 9 => .array .int
  | 10 => .array .int
  | 11 => .array .int
  | 12 => .object "DoorBench$Spans"
  | 13 => .int
  | 14 => .int
  | _ => .int
abbrev wsX10 : List Cond := u_ws RX1 TX1 16
theorem nmX1 : ∀ a, a < 16 → ∀ b, b < 16 → a ≠ b → (TX1 a).2.1 ≠ (TX1 b).2.1 := by decide +kernel
theorem tyX1_ok : ∀ k, k < 16 → parseFieldDescriptor (TX1 k).2.2.1 = some (tyX1 k) := by decide +kernel
abbrev cX1_init : ByteArray := prog_1_method_1_code
def yX1_init : MethodName := ⟨RX1, "<init>", "()V"⟩
abbrev cX1_day : ByteArray := prog_1_method_2_code
def yX1_day : MethodName := ⟨RX1, "day", "(I)Z"⟩
abbrev cX1_door : ByteArray := prog_1_method_3_code
def yX1_door : MethodName := ⟨RX1, "door", "(IIII)I"⟩
abbrev cX1_row : ByteArray := prog_1_method_4_code
def yX1_row : MethodName := ⟨RX1, "row", "(IIII)Z"⟩
abbrev cX1_lack : ByteArray := prog_1_method_5_code
def yX1_lack : MethodName := ⟨RX1, "lack", "(III)Z"⟩
abbrev cX1_start : ByteArray := prog_1_method_6_code
def yX1_start : MethodName := ⟨RX1, "start", "(III)Z"⟩
abbrev cX1_check : ByteArray := prog_1_method_7_code
def yX1_check : MethodName := ⟨RX1, "check", "(IIII)I"⟩
abbrev cX1_uncheck : ByteArray := prog_1_method_8_code
def yX1_uncheck : MethodName := ⟨RX1, "uncheck", "()I"⟩
abbrev cX1_fits : ByteArray := prog_1_method_9_code
def yX1_fits : MethodName := ⟨RX1, "fits", "()I"⟩
abbrev cX1_inside : ByteArray := prog_1_method_10_code
def yX1_inside : MethodName := ⟨RX1, "inside", "(IIZ)I"⟩
abbrev cX1_could : ByteArray := prog_1_method_11_code
def yX1_could : MethodName := ⟨RX1, "could", "(I)I"⟩
abbrev cX1_surely : ByteArray := prog_1_method_12_code
def yX1_surely : MethodName := ⟨RX1, "surely", "(I)I"⟩
abbrev cX1_through : ByteArray := prog_1_method_13_code
def yX1_through : MethodName := ⟨RX1, "through", "(IIZ)I"⟩
abbrev cX1_worse : ByteArray := prog_1_method_14_code
def yX1_worse : MethodName := ⟨RX1, "worse", "()I"⟩
abbrev cX1_quarrel : ByteArray := prog_1_method_15_code
def yX1_quarrel : MethodName := ⟨RX1, "quarrel", "()I"⟩
abbrev cX1_look : ByteArray := prog_1_method_16_code
def yX1_look : MethodName := ⟨RX1, "look", "(II)I"⟩
abbrev cX1_count : ByteArray := prog_1_method_17_code
def yX1_count : MethodName := ⟨RX1, "count", "(I)I"⟩
abbrev cX1_beginDay : ByteArray := prog_1_method_18_code
def yX1_beginDay : MethodName := ⟨RX1, "beginDay", "(I)V"⟩
abbrev cX1_within : ByteArray := prog_1_method_19_code
def yX1_within : MethodName := ⟨RX1, "within", "(III)Z"⟩
abbrev cX1_isDoor : ByteArray := prog_1_method_20_code
def yX1_isDoor : MethodName := ⟨RX1, "isDoor", "(I)Z"⟩
abbrev cX1_isTick : ByteArray := prog_1_method_21_code
def yX1_isTick : MethodName := ⟨RX1, "isTick", "(I)Z"⟩
abbrev cX1_isTime : ByteArray := prog_1_method_22_code
def yX1_isTime : MethodName := ⟨RX1, "isTime", "(I)Z"⟩
abbrev cX1_isWhat : ByteArray := prog_1_method_23_code
def yX1_isWhat : MethodName := ⟨RX1, "isWhat", "(I)Z"⟩
abbrev cX1_isSpanInside : ByteArray := prog_1_method_24_code
def yX1_isSpanInside : MethodName := ⟨RX1, "isSpanInside", "(II)Z"⟩
abbrev cX1_place : ByteArray := prog_1_method_25_code
def yX1_place : MethodName := ⟨RX1, "place", "(II)I"⟩
abbrev cX1_toldRows : ByteArray := prog_1_method_26_code
def yX1_toldRows : MethodName := ⟨RX1, "toldRows", "(I)I"⟩
abbrev cX1_allToldRows : ByteArray := prog_1_method_27_code
def yX1_allToldRows : MethodName := ⟨RX1, "allToldRows", "()I"⟩
abbrev cX1_toldSum : ByteArray := prog_1_method_28_code
def yX1_toldSum : MethodName := ⟨RX1, "toldSum", "([II)I"⟩
abbrev cX1_leastPassed : ByteArray := prog_1_method_29_code
def yX1_leastPassed : MethodName := ⟨RX1, "leastPassed", "(III)I"⟩
abbrev cX1_mostPassed : ByteArray := prog_1_method_30_code
def yX1_mostPassed : MethodName := ⟨RX1, "mostPassed", "(III)I"⟩
abbrev cX1_leastNet : ByteArray := prog_1_method_31_code
def yX1_leastNet : MethodName := ⟨RX1, "leastNet", "(III)I"⟩
abbrev cX1_mostNet : ByteArray := prog_1_method_32_code
def yX1_mostNet : MethodName := ⟨RX1, "mostNet", "(III)I"⟩
abbrev cX1_gatherChange : ByteArray := prog_1_method_33_code
def yX1_gatherChange : MethodName := ⟨RX1, "gatherChange", "(III)V"⟩
abbrev cX1_addDoor : ByteArray := prog_1_method_34_code
def yX1_addDoor : MethodName := ⟨RX1, "addDoor", "(III)V"⟩
abbrev cX1_lookAhead : ByteArray := prog_1_method_35_code
def yX1_lookAhead : MethodName := ⟨RX1, "lookAhead", "(I)I"⟩
abbrev cX1_keepAllowed : ByteArray := prog_1_method_36_code
def yX1_keepAllowed : MethodName := ⟨RX1, "keepAllowed", "(I)Z"⟩
abbrev cX1_lookBackTo : ByteArray := prog_1_method_37_code
def yX1_lookBackTo : MethodName := ⟨RX1, "lookBackTo", "(I)V"⟩
abbrev cX1_firstAbove : ByteArray := prog_1_method_38_code
def yX1_firstAbove : MethodName := ⟨RX1, "firstAbove", "(IZ)I"⟩
abbrev cX1_leastThrough : ByteArray := prog_1_method_39_code
def yX1_leastThrough : MethodName := ⟨RX1, "leastThrough", "(II)I"⟩
abbrev cX1_mostThrough : ByteArray := prog_1_method_40_code
def yX1_mostThrough : MethodName := ⟨RX1, "mostThrough", "(II)I"⟩
abbrev cX1_leastRest : ByteArray := prog_1_method_41_code
def yX1_leastRest : MethodName := ⟨RX1, "leastRest", "(II)I"⟩
abbrev cX1_mostRest : ByteArray := prog_1_method_42_code
def yX1_mostRest : MethodName := ⟨RX1, "mostRest", "(II)I"⟩
def RX2 : String := "DoorBenchModel"
def TX2 : u_T := fun k => match k with
  | 0 => ("DoorBenchModel", "ticks", "I", false)
  | 1 => ("DoorBenchModel", "doors", "I", false)
  | 2 => ("DoorBenchModel", "kind", "[I", true)
  | 3 => ("DoorBenchModel", "miss", "[I", true)
  | 4 => ("DoorBenchModel", "twice", "[I", true)
  | 5 => ("DoorBenchModel", "cap", "[I", true)
  | 6 => ("DoorBenchModel", "in", "[I", true)
  | 7 => ("DoorBenchModel", "out", "[I", true)
  | 8 => ("DoorBenchModel", "low", "[I", true)
  | 9 => ("DoorBenchModel", "high", "[I", true)
  | 10 => ("DoorBenchModel", "checks", "I", false)
  | 11 => ("DoorBenchModel", "cTime", "[I", true)
  | 12 => ("DoorBenchModel", "cWhat", "[I", true)
  | 13 => ("DoorBenchModel", "cLow", "[I", true)
  | 14 => ("DoorBenchModel", "cHigh", "[I", true)
  | 15 => ("DoorBenchModel", "thrown", "I", false)
  | 16 => ("DoorBenchModel", "ahead", "[I", true)
  | 17 => ("DoorBenchModel", "back", "[I", true)
  | 18 => ("DoorBenchModel", "both", "[I", true)
  | 19 => ("DoorBenchModel", "move", "[I", true)
  | _ => ("DoorBenchModel", "more", "I", false)
def tyX2 : Nat → FieldType := fun k => match k with
  | 0 => .int
  | 1 => .int
  | 2 => .array .int
  | 3 => .array .int
  | 4 => .array .int
  | 5 => .array .int
  | 6 => .array .int
  | 7 => .array .int
  | 8 => .array .int
  | 9 => .array .int
  | 10 => .int
  | 11 => .array .int
  | 12 => .array .int
  | 13 => .array .int
  | 14 => .array .int
  | 15 => .int
  | 16 => .array .int
  | 17 => .array .int
  | 18 => .array .int
  | 19 => .array .int
  | _ => .int
abbrev wsX20 : List Cond := u_ws RX2 TX2 21
theorem nmX2 : ∀ a, a < 21 → ∀ b, b < 21 → a ≠ b → (TX2 a).2.1 ≠ (TX2 b).2.1 := by decide +kernel
theorem tyX2_ok : ∀ k, k < 21 → parseFieldDescriptor (TX2 k).2.2.1 = some (tyX2 k) := by decide +kernel
abbrev cX2_init : ByteArray := prog_4_method_1_code
def yX2_init : MethodName := ⟨RX2, "<init>", "()V"⟩
abbrev cX2_thrown : ByteArray := prog_4_method_2_code
def yX2_thrown : MethodName := ⟨RX2, "thrown", "()I"⟩
abbrev cX2_clear : ByteArray := prog_4_method_3_code
def yX2_clear : MethodName := ⟨RX2, "clear", "(I)V"⟩
abbrev cX2_day : ByteArray := prog_4_method_4_code
def yX2_day : MethodName := ⟨RX2, "day", "(I)Z"⟩
abbrev cX2_door : ByteArray := prog_4_method_5_code
def yX2_door : MethodName := ⟨RX2, "door", "(IIII)I"⟩
abbrev cX2_isRow : ByteArray := prog_4_method_6_code
def yX2_isRow : MethodName := ⟨RX2, "isRow", "(II)Z"⟩
abbrev cX2_row : ByteArray := prog_4_method_7_code
def yX2_row : MethodName := ⟨RX2, "row", "(IIII)Z"⟩
abbrev cX2_lack : ByteArray := prog_4_method_8_code
def yX2_lack : MethodName := ⟨RX2, "lack", "(III)Z"⟩
abbrev cX2_start : ByteArray := prog_4_method_9_code
def yX2_start : MethodName := ⟨RX2, "start", "(III)Z"⟩
abbrev cX2_check : ByteArray := prog_4_method_10_code
def yX2_check : MethodName := ⟨RX2, "check", "(IIII)I"⟩
abbrev cX2_uncheck : ByteArray := prog_4_method_11_code
def yX2_uncheck : MethodName := ⟨RX2, "uncheck", "()I"⟩
abbrev cX2_greater : ByteArray := prog_4_method_12_code
def yX2_greater : MethodName := ⟨RX2, "greater", "(II)I"⟩
abbrev cX2_lesser : ByteArray := prog_4_method_13_code
def yX2_lesser : MethodName := ⟨RX2, "lesser", "(II)I"⟩
abbrev cX2_least : ByteArray := prog_4_method_14_code
def yX2_least : MethodName := ⟨RX2, "least", "(II)I"⟩
abbrev cX2_most : ByteArray := prog_4_method_15_code
def yX2_most : MethodName := ⟨RX2, "most", "(II)I"⟩
abbrev cX2_netLow : ByteArray := prog_4_method_16_code
def yX2_netLow : MethodName := ⟨RX2, "netLow", "(II)I"⟩
abbrev cX2_netHigh : ByteArray := prog_4_method_17_code
def yX2_netHigh : MethodName := ⟨RX2, "netHigh", "(II)I"⟩
abbrev cX2_moves : ByteArray := prog_4_method_18_code
def yX2_moves : MethodName := ⟨RX2, "moves", "(II)V"⟩
abbrev cX2_close : ByteArray := prog_4_method_19_code
def yX2_close : MethodName := ⟨RX2, "close", "([II)Z"⟩
abbrev cX2_holds : ByteArray := prog_4_method_20_code
def yX2_holds : MethodName := ⟨RX2, "holds", "([II)Z"⟩
abbrev cX2_forward : ByteArray := prog_4_method_21_code
def yX2_forward : MethodName := ⟨RX2, "forward", "()I"⟩
abbrev cX2_backward : ByteArray := prog_4_method_22_code
def yX2_backward : MethodName := ⟨RX2, "backward", "()V"⟩
abbrev cX2_work : ByteArray := prog_4_method_23_code
def yX2_work : MethodName := ⟨RX2, "work", "()Z"⟩
abbrev cX2_fits : ByteArray := prog_4_method_24_code
def yX2_fits : MethodName := ⟨RX2, "fits", "()I"⟩
abbrev cX2_fails : ByteArray := prog_4_method_25_code
def yX2_fails : MethodName := ⟨RX2, "fails", "(I)I"⟩
abbrev cX2_inside : ByteArray := prog_4_method_26_code
def yX2_inside : MethodName := ⟨RX2, "inside", "(IIZ)I"⟩
abbrev cX2_above : ByteArray := prog_4_method_27_code
def yX2_above : MethodName := ⟨RX2, "above", "(II)I"⟩
abbrev cX2_could : ByteArray := prog_4_method_28_code
def yX2_could : MethodName := ⟨RX2, "could", "(I)I"⟩
abbrev cX2_surely : ByteArray := prog_4_method_29_code
def yX2_surely : MethodName := ⟨RX2, "surely", "(I)I"⟩
abbrev cX2_through : ByteArray := prog_4_method_30_code
def yX2_through : MethodName := ⟨RX2, "through", "(IIZ)I"⟩
abbrev cX2_worse : ByteArray := prog_4_method_31_code
def yX2_worse : MethodName := ⟨RX2, "worse", "()I"⟩
abbrev cX2_quarrel : ByteArray := prog_4_method_32_code
def yX2_quarrel : MethodName := ⟨RX2, "quarrel", "()I"⟩
abbrev cX2_look : ByteArray := prog_4_method_33_code
def yX2_look : MethodName := ⟨RX2, "look", "(II)I"⟩
abbrev cX2_count : ByteArray := prog_4_method_34_code
def yX2_count : MethodName := ⟨RX2, "count", "(I)I"⟩
def RJ9 : String := "java/lang/Math"
def TJ9 : u_T := fun k => match k with
  | _ => ("", "", "", false)
def tyJ9 : Nat → FieldType := fun k => match k with
  | _ => .int
abbrev wsJ90 : List Cond := u_ws RJ9 TJ9 0
theorem nmJ9 : ∀ a, a < 0 → ∀ b, b < 0 → a ≠ b → (TJ9 a).2.1 ≠ (TJ9 b).2.1 := by decide +kernel
theorem tyJ9_ok : ∀ k, k < 0 → parseFieldDescriptor (TJ9 k).2.2.1 = some (tyJ9 k) := by decide +kernel
abbrev cJ9_max_7cf53 : ByteArray := prog_7_method_65_code
def yJ9_max_7cf53 : MethodName := ⟨RJ9, "max", "(II)I"⟩
abbrev cJ9_min_7cf53 : ByteArray := prog_7_method_69_code
def yJ9_min_7cf53 : MethodName := ⟨RJ9, "min", "(II)I"⟩
def RJ0 : String := "java/lang/String"
def TJ0 : u_T := fun k => match k with
  | _ => ("", "", "", false)
def tyJ0 : Nat → FieldType := fun k => match k with
  | _ => .int
abbrev wsJ00 : List Cond := u_ws RJ0 TJ0 0
theorem nmJ0 : ∀ a, a < 0 → ∀ b, b < 0 → a ≠ b → (TJ0 a).2.1 ≠ (TJ0 b).2.1 := by decide +kernel
theorem tyJ0_ok : ∀ k, k < 0 → parseFieldDescriptor (TJ0 k).2.2.1 = some (tyJ0 k) := by decide +kernel
def RJ7 : String := "java/util/Arrays"
def TJ7 : u_T := fun k => match k with
  | _ => ("", "", "", false)
def tyJ7 : Nat → FieldType := fun k => match k with
  | _ => .int
abbrev wsJ70 : List Cond := u_ws RJ7 TJ7 0
theorem nmJ7 : ∀ a, a < 0 → ∀ b, b < 0 → a ≠ b → (TJ7 a).2.1 ≠ (TJ7 b).2.1 := by decide +kernel
theorem tyJ7_ok : ∀ k, k < 0 → parseFieldDescriptor (TJ7 k).2.2.1 = some (tyJ7 k) := by decide +kernel
abbrev cJ7_fill_53178 : ByteArray := prog_11_method_103_code
def yJ7_fill_53178 : MethodName := ⟨RJ7, "fill", "([II)V"⟩
def RL : String := "DoorBenchLaw"
abbrev cL_inside : ByteArray := method_3_code
def yL_inside : MethodName := ⟨RL, "inside", "(LDoorBench;IIZ[J)I"⟩
abbrev cL_through : ByteArray := method_4_code
def yL_through : MethodName := ⟨RL, "through", "(LDoorBench;IIZ[J)I"⟩
abbrev cL_look : ByteArray := method_5_code
def yL_look : MethodName := ⟨RL, "look", "(LDoorBench;II[J)I"⟩
abbrev cL_law : ByteArray := code
def yL_law : MethodName := ⟨RL, "law", "([I)Z"⟩
def wsX0_init : List Cond := .code yX0_init cX0_init 1 none :: ([.methodLink RX0 3 objectInit, .instanceMethod objectInit, .code objectInit ⟨#[0xb1]⟩ 1 none, .arrayClass .int, .fieldLink RX0 9 "DoorBench$Spans" "lows" "[I", .fieldLink RX0 15 "DoorBench$Spans" "highs" "[I"] ++ wsX00)
def wsX0_at : List Cond := .code yX0_at cX0_at 2 (some .int) :: ([])
def wsX0_low : List Cond := .code yX0_low cX0_low 3 (some .int) :: ([.fieldLink RX0 9 "DoorBench$Spans" "lows" "[I", .methodLink RX0 18 yX0_at, .static yX0_at, .initialized RX0, .code yX0_at cX0_at 2 (some .int)] ++ wsX00)
def wsX0_high : List Cond := .code yX0_high cX0_high 3 (some .int) :: ([.fieldLink RX0 15 "DoorBench$Spans" "highs" "[I", .methodLink RX0 18 yX0_at, .static yX0_at, .initialized RX0, .code yX0_at cX0_at 2 (some .int)] ++ wsX00)
def wsX0_put : List Cond := .code yX0_put cX0_put 6 none :: ([.fieldLink RX0 9 "DoorBench$Spans" "lows" "[I", .fieldLink RX0 15 "DoorBench$Spans" "highs" "[I", .methodLink RX0 18 yX0_at, .static yX0_at, .initialized RX0, .code yX0_at cX0_at 2 (some .int)] ++ wsX00)
def wsX0_widen : List Cond := .code yX0_widen cX0_widen 6 none :: ([.fieldLink RX0 9 "DoorBench$Spans" "lows" "[I", .fieldLink RX0 15 "DoorBench$Spans" "highs" "[I", .methodLink RX0 18 yX0_at, .static yX0_at, .initialized RX0, .code yX0_at cX0_at 2 (some .int)] ++ wsX00)
def wsX0_cut : List Cond := .code yX0_cut cX0_cut 6 none :: ([.fieldLink RX0 9 "DoorBench$Spans" "lows" "[I", .methodLink RX0 22 Lib.Math.max.name, .static Lib.Math.max.name, .initialized "java/lang/Math", .code Lib.Math.max.name Lib.Math.max.code 2 (some .int), .fieldLink RX0 15 "DoorBench$Spans" "highs" "[I", .methodLink RX0 27 Lib.Math.min.name, .static Lib.Math.min.name, .code Lib.Math.min.name Lib.Math.min.code 2 (some .int), .methodLink RX0 18 yX0_at, .static yX0_at, .initialized RX0, .code yX0_at cX0_at 2 (some .int)] ++ wsX00)
def wsX0_putSum : List Cond := .code yX0_putSum cX0_putSum 5 none :: ([.methodLink RX0 30 yX0_low, .instanceMethod yX0_low, .selects RX0 yX0_low yX0_low, .initialized RX0, .code yX0_low cX0_low 3 (some .int), .fieldLink RX0 9 "DoorBench$Spans" "lows" "[I", .methodLink RX0 18 yX0_at, .static yX0_at, .code yX0_at cX0_at 2 (some .int), .methodLink RX0 33 yX0_high, .instanceMethod yX0_high, .selects RX0 yX0_high yX0_high, .code yX0_high cX0_high 3 (some .int), .fieldLink RX0 15 "DoorBench$Spans" "highs" "[I", .methodLink RX0 36 yX0_put, .instanceMethod yX0_put, .selects RX0 yX0_put yX0_put, .code yX0_put cX0_put 6 none] ++ wsX00)
def wsX0_cutByDifference_r1 : List Cond := [Cond.methodLink RX0 30 yX0_low, Cond.instanceMethod yX0_low, Cond.selects RX0 yX0_low yX0_low, Cond.initialized RX0, Cond.code yX0_low cX0_low 3 (some .int), Cond.fieldLink RX0 9 "DoorBench$Spans" "lows" "[I", Cond.methodLink RX0 18 yX0_at, Cond.static yX0_at, Cond.code yX0_at cX0_at 2 (some .int), Cond.methodLink RX0 33 yX0_high, Cond.instanceMethod yX0_high, Cond.selects RX0 yX0_high yX0_high, Cond.code yX0_high cX0_high 3 (some .int), Cond.fieldLink RX0 15 "DoorBench$Spans" "highs" "[I", Cond.methodLink RX0 40 yX0_cut, Cond.instanceMethod yX0_cut, Cond.selects RX0 yX0_cut yX0_cut, Cond.code yX0_cut cX0_cut 6 none, Cond.methodLink RX0 22 Lib.Math.max.name, Cond.static Lib.Math.max.name, Cond.initialized "java/lang/Math", Cond.code Lib.Math.max.name Lib.Math.max.code 2 (some .int), Cond.methodLink RX0 27 Lib.Math.min.name, Cond.static Lib.Math.min.name]
def wsX0_cutByDifference_r2 : List Cond := [Cond.code Lib.Math.min.name Lib.Math.min.code 2 (some .int)]
def wsX0_cutByDifference : List Cond := .code yX0_cutByDifference cX0_cutByDifference 5 none :: ((wsX0_cutByDifference_r1 ++ wsX0_cutByDifference_r2) ++ wsX00)
def wsX0_isSpan : List Cond := .code yX0_isSpan cX0_isSpan 3 (some .boolean) :: ([.methodLink RX0 30 yX0_low, .instanceMethod yX0_low, .selects RX0 yX0_low yX0_low, .initialized RX0, .code yX0_low cX0_low 3 (some .int), .fieldLink RX0 9 "DoorBench$Spans" "lows" "[I", .methodLink RX0 18 yX0_at, .static yX0_at, .code yX0_at cX0_at 2 (some .int), .methodLink RX0 33 yX0_high, .instanceMethod yX0_high, .selects RX0 yX0_high yX0_high, .code yX0_high cX0_high 3 (some .int), .fieldLink RX0 15 "DoorBench$Spans" "highs" "[I"] ++ wsX00)
def wsX0_tighten_r1 : List Cond := [Cond.methodLink RX0 30 yX0_low, Cond.instanceMethod yX0_low, Cond.selects RX0 yX0_low yX0_low, Cond.initialized RX0, Cond.code yX0_low cX0_low 3 (some .int), Cond.fieldLink RX0 9 "DoorBench$Spans" "lows" "[I", Cond.methodLink RX0 18 yX0_at, Cond.static yX0_at, Cond.code yX0_at cX0_at 2 (some .int), Cond.methodLink RX0 33 yX0_high, Cond.instanceMethod yX0_high, Cond.selects RX0 yX0_high yX0_high, Cond.code yX0_high cX0_high 3 (some .int), Cond.fieldLink RX0 15 "DoorBench$Spans" "highs" "[I", Cond.methodLink RX0 40 yX0_cut, Cond.instanceMethod yX0_cut, Cond.selects RX0 yX0_cut yX0_cut, Cond.code yX0_cut cX0_cut 6 none, Cond.methodLink RX0 22 Lib.Math.max.name, Cond.static Lib.Math.max.name, Cond.initialized "java/lang/Math", Cond.code Lib.Math.max.name Lib.Math.max.code 2 (some .int), Cond.methodLink RX0 27 Lib.Math.min.name, Cond.static Lib.Math.min.name]
def wsX0_tighten_r2 : List Cond := [Cond.code Lib.Math.min.name Lib.Math.min.code 2 (some .int), Cond.methodLink RX0 43 yX0_isSpan, Cond.instanceMethod yX0_isSpan, Cond.selects RX0 yX0_isSpan yX0_isSpan, Cond.code yX0_isSpan cX0_isSpan 3 (some .boolean)]
def wsX0_tighten : List Cond := .code yX0_tighten cX0_tighten 8 (some .boolean) :: ((wsX0_tighten_r1 ++ wsX0_tighten_r2) ++ wsX00)
def wsJ7_fill_53178 : List Cond := .code yJ7_fill_53178 cJ7_fill_53178 4 none :: ([])
def wsX1_beginDay : List Cond := .code yX1_beginDay cX1_beginDay 2 none :: ([.fieldLink RX1 141 "DoorBench" "ticks" "I", .fieldLink RX1 61 "DoorBench" "doors" "I", .fieldLink RX1 86 "DoorBench" "checks" "I", .fieldLink RX1 22 "DoorBench" "toldIn" "[I", .fieldLink RX1 25 "DoorBench" "toldOut" "[I", .fieldLink RX1 28 "DoorBench" "startLow" "[I", .fieldLink RX1 31 "DoorBench" "startHigh" "[I", .methodLink RX1 148 yJ7_fill_53178, .static yJ7_fill_53178, .initialized RJ7, .code yJ7_fill_53178 cJ7_fill_53178 4 none] ++ wsX10)
def wsX1_init_r1 : List Cond := [Cond.methodLink RX1 3 objectInit, Cond.instanceMethod objectInit, Cond.code objectInit ⟨#[0xb1]⟩ 1 none, Cond.arrayClass .int, Cond.fieldLink RX1 9 "DoorBench" "kinds" "[I", Cond.fieldLink RX1 13 "DoorBench" "misses" "[I", Cond.fieldLink RX1 16 "DoorBench" "doubles" "[I", Cond.fieldLink RX1 19 "DoorBench" "caps" "[I", Cond.fieldLink RX1 22 "DoorBench" "toldIn" "[I", Cond.fieldLink RX1 25 "DoorBench" "toldOut" "[I", Cond.fieldLink RX1 28 "DoorBench" "startLow" "[I", Cond.fieldLink RX1 31 "DoorBench" "startHigh" "[I", Cond.fieldLink RX1 34 "DoorBench" "checkTime" "[I", Cond.fieldLink RX1 37 "DoorBench" "checkWhat" "[I", Cond.fieldLink RX1 40 "DoorBench" "checkLow" "[I", Cond.fieldLink RX1 43 "DoorBench" "checkHigh" "[I", Cond.classLink RX1 46 RX0, Cond.instantiable RX0 2, Cond.initialized RX0, Cond.fieldLink RX1 49 "DoorBench" "spans" "LDoorBench$Spans;", Cond.methodLink RX1 48 yX0_init, Cond.instanceMethod yX0_init, Cond.code yX0_init cX0_init 1 none, Cond.methodLink RX0 3 objectInit]
def wsX1_init_r2 : List Cond := [Cond.fieldLink RX0 9 "DoorBench$Spans" "lows" "[I", Cond.fieldLink RX0 15 "DoorBench$Spans" "highs" "[I", Cond.methodLink RX1 53 yX1_beginDay, Cond.instanceMethod yX1_beginDay, Cond.selects RX1 yX1_beginDay yX1_beginDay, Cond.initialized RX1, Cond.code yX1_beginDay cX1_beginDay 2 none, Cond.fieldLink RX1 141 "DoorBench" "ticks" "I", Cond.fieldLink RX1 61 "DoorBench" "doors" "I", Cond.fieldLink RX1 86 "DoorBench" "checks" "I", Cond.methodLink RX1 148 yJ7_fill_53178, Cond.static yJ7_fill_53178, Cond.initialized RJ7, Cond.code yJ7_fill_53178 cJ7_fill_53178 4 none]
def wsX1_init : List Cond := .code yX1_init cX1_init 1 none :: ((wsX1_init_r1 ++ wsX1_init_r2) ++ wsX10 ++ wsX00)
def wsX1_within : List Cond := .code yX1_within cX1_within 3 (some .boolean) :: ([])
def wsX1_day : List Cond := .code yX1_day cX1_day 2 (some .boolean) :: ([.methodLink RX1 57 yX1_within, .static yX1_within, .initialized RX1, .code yX1_within cX1_within 3 (some .boolean), .methodLink RX1 53 yX1_beginDay, .instanceMethod yX1_beginDay, .selects RX1 yX1_beginDay yX1_beginDay, .code yX1_beginDay cX1_beginDay 2 none, .fieldLink RX1 141 "DoorBench" "ticks" "I", .fieldLink RX1 61 "DoorBench" "doors" "I", .fieldLink RX1 86 "DoorBench" "checks" "I", .fieldLink RX1 22 "DoorBench" "toldIn" "[I", .fieldLink RX1 25 "DoorBench" "toldOut" "[I", .fieldLink RX1 28 "DoorBench" "startLow" "[I", .fieldLink RX1 31 "DoorBench" "startHigh" "[I", .methodLink RX1 148 yJ7_fill_53178, .static yJ7_fill_53178, .initialized RJ7, .code yJ7_fill_53178 cJ7_fill_53178 4 none] ++ wsX10)
def wsX1_door : List Cond := .code yX1_door cX1_door 7 (some .int) :: ([.fieldLink RX1 61 "DoorBench" "doors" "I", .fieldLink RX1 9 "DoorBench" "kinds" "[I", .fieldLink RX1 13 "DoorBench" "misses" "[I", .fieldLink RX1 16 "DoorBench" "doubles" "[I", .fieldLink RX1 19 "DoorBench" "caps" "[I", .methodLink RX1 57 yX1_within, .static yX1_within, .initialized RX1, .code yX1_within cX1_within 3 (some .boolean)] ++ wsX10)
def wsX1_isDoor : List Cond := .code yX1_isDoor cX1_isDoor 2 (some .boolean) :: ([.fieldLink RX1 61 "DoorBench" "doors" "I", .methodLink RX1 57 yX1_within, .static yX1_within, .initialized RX1, .code yX1_within cX1_within 3 (some .boolean)] ++ wsX10)
def wsX1_isTick : List Cond := .code yX1_isTick cX1_isTick 2 (some .boolean) :: ([.fieldLink RX1 141 "DoorBench" "ticks" "I", .methodLink RX1 57 yX1_within, .static yX1_within, .initialized RX1, .code yX1_within cX1_within 3 (some .boolean)] ++ wsX10)
def wsX1_place : List Cond := .code yX1_place cX1_place 2 (some .int) :: ([])
def wsX1_row : List Cond := .code yX1_row cX1_row 7 (some .boolean) :: ([.fieldLink RX1 22 "DoorBench" "toldIn" "[I", .fieldLink RX1 25 "DoorBench" "toldOut" "[I", .methodLink RX1 65 yX1_isDoor, .instanceMethod yX1_isDoor, .selects RX1 yX1_isDoor yX1_isDoor, .initialized RX1, .code yX1_isDoor cX1_isDoor 2 (some .boolean), .fieldLink RX1 61 "DoorBench" "doors" "I", .methodLink RX1 57 yX1_within, .static yX1_within, .code yX1_within cX1_within 3 (some .boolean), .methodLink RX1 69 yX1_isTick, .instanceMethod yX1_isTick, .selects RX1 yX1_isTick yX1_isTick, .code yX1_isTick cX1_isTick 2 (some .boolean), .fieldLink RX1 141 "DoorBench" "ticks" "I", .methodLink RX1 72 yX1_place, .static yX1_place, .code yX1_place cX1_place 2 (some .int)] ++ wsX10)
def wsX1_lack : List Cond := .code yX1_lack cX1_lack 5 (some .boolean) :: ([.fieldLink RX1 22 "DoorBench" "toldIn" "[I", .fieldLink RX1 25 "DoorBench" "toldOut" "[I", .methodLink RX1 65 yX1_isDoor, .instanceMethod yX1_isDoor, .selects RX1 yX1_isDoor yX1_isDoor, .initialized RX1, .code yX1_isDoor cX1_isDoor 2 (some .boolean), .fieldLink RX1 61 "DoorBench" "doors" "I", .methodLink RX1 57 yX1_within, .static yX1_within, .code yX1_within cX1_within 3 (some .boolean), .methodLink RX1 69 yX1_isTick, .instanceMethod yX1_isTick, .selects RX1 yX1_isTick yX1_isTick, .code yX1_isTick cX1_isTick 2 (some .boolean), .fieldLink RX1 141 "DoorBench" "ticks" "I", .methodLink RX1 72 yX1_place, .static yX1_place, .code yX1_place cX1_place 2 (some .int)] ++ wsX10)
def wsX1_isSpanInside : List Cond := .code yX1_isSpanInside cX1_isSpanInside 2 (some .boolean) :: ([])
def wsX1_start : List Cond := .code yX1_start cX1_start 4 (some .boolean) :: ([.fieldLink RX1 28 "DoorBench" "startLow" "[I", .fieldLink RX1 31 "DoorBench" "startHigh" "[I", .methodLink RX1 57 yX1_within, .static yX1_within, .initialized RX1, .code yX1_within cX1_within 3 (some .boolean), .methodLink RX1 76 yX1_isSpanInside, .static yX1_isSpanInside, .code yX1_isSpanInside cX1_isSpanInside 2 (some .boolean)] ++ wsX10)
def wsX1_isTime : List Cond := .code yX1_isTime cX1_isTime 2 (some .boolean) :: ([.fieldLink RX1 141 "DoorBench" "ticks" "I", .methodLink RX1 57 yX1_within, .static yX1_within, .initialized RX1, .code yX1_within cX1_within 3 (some .boolean)] ++ wsX10)
def wsX1_isWhat : List Cond := .code yX1_isWhat cX1_isWhat 1 (some .boolean) :: ([.methodLink RX1 57 yX1_within, .static yX1_within, .initialized RX1, .code yX1_within cX1_within 3 (some .boolean)])
def wsX1_check : List Cond := .code yX1_check cX1_check 7 (some .int) :: ([.fieldLink RX1 86 "DoorBench" "checks" "I", .fieldLink RX1 34 "DoorBench" "checkTime" "[I", .fieldLink RX1 37 "DoorBench" "checkWhat" "[I", .fieldLink RX1 40 "DoorBench" "checkLow" "[I", .fieldLink RX1 43 "DoorBench" "checkHigh" "[I", .methodLink RX1 80 yX1_isTime, .instanceMethod yX1_isTime, .selects RX1 yX1_isTime yX1_isTime, .initialized RX1, .code yX1_isTime cX1_isTime 2 (some .boolean), .fieldLink RX1 141 "DoorBench" "ticks" "I", .methodLink RX1 57 yX1_within, .static yX1_within, .code yX1_within cX1_within 3 (some .boolean), .methodLink RX1 83 yX1_isWhat, .static yX1_isWhat, .code yX1_isWhat cX1_isWhat 1 (some .boolean), .methodLink RX1 76 yX1_isSpanInside, .static yX1_isSpanInside, .code yX1_isSpanInside cX1_isSpanInside 2 (some .boolean)] ++ wsX10)
def wsX1_uncheck : List Cond := .code yX1_uncheck cX1_uncheck 1 (some .int) :: ([.fieldLink RX1 86 "DoorBench" "checks" "I"] ++ wsX10)
def wsX1_leastPassed : List Cond := .code yX1_leastPassed cX1_leastPassed 4 (some .int) :: ([.fieldLink RX1 16 "DoorBench" "doubles" "[I", .methodLink RX1 154 Lib.Math.max.name, .static Lib.Math.max.name, .initialized "java/lang/Math", .code Lib.Math.max.name Lib.Math.max.code 2 (some .int)] ++ wsX10)
def wsX1_mostPassed : List Cond := .code yX1_mostPassed cX1_mostPassed 4 (some .int) :: ([.fieldLink RX1 19 "DoorBench" "caps" "[I", .fieldLink RX1 13 "DoorBench" "misses" "[I"] ++ wsX10)
def wsX1_leastNet : List Cond := .code yX1_leastNet cX1_leastNet 5 (some .int) :: ([.fieldLink RX1 22 "DoorBench" "toldIn" "[I", .fieldLink RX1 25 "DoorBench" "toldOut" "[I", .methodLink RX1 72 yX1_place, .static yX1_place, .initialized RX1, .code yX1_place cX1_place 2 (some .int), .methodLink RX1 159 yX1_leastPassed, .instanceMethod yX1_leastPassed, .selects RX1 yX1_leastPassed yX1_leastPassed, .code yX1_leastPassed cX1_leastPassed 4 (some .int), .fieldLink RX1 16 "DoorBench" "doubles" "[I", .methodLink RX1 154 Lib.Math.max.name, .static Lib.Math.max.name, .initialized "java/lang/Math", .code Lib.Math.max.name Lib.Math.max.code 2 (some .int), .methodLink RX1 163 yX1_mostPassed, .instanceMethod yX1_mostPassed, .selects RX1 yX1_mostPassed yX1_mostPassed, .code yX1_mostPassed cX1_mostPassed 4 (some .int), .fieldLink RX1 19 "DoorBench" "caps" "[I", .fieldLink RX1 13 "DoorBench" "misses" "[I"] ++ wsX10)
def wsX1_mostNet : List Cond := .code yX1_mostNet cX1_mostNet 5 (some .int) :: ([.fieldLink RX1 22 "DoorBench" "toldIn" "[I", .fieldLink RX1 25 "DoorBench" "toldOut" "[I", .methodLink RX1 72 yX1_place, .static yX1_place, .initialized RX1, .code yX1_place cX1_place 2 (some .int), .methodLink RX1 163 yX1_mostPassed, .instanceMethod yX1_mostPassed, .selects RX1 yX1_mostPassed yX1_mostPassed, .code yX1_mostPassed cX1_mostPassed 4 (some .int), .fieldLink RX1 19 "DoorBench" "caps" "[I", .fieldLink RX1 13 "DoorBench" "misses" "[I", .methodLink RX1 159 yX1_leastPassed, .instanceMethod yX1_leastPassed, .selects RX1 yX1_leastPassed yX1_leastPassed, .code yX1_leastPassed cX1_leastPassed 4 (some .int), .fieldLink RX1 16 "DoorBench" "doubles" "[I", .methodLink RX1 154 Lib.Math.max.name, .static Lib.Math.max.name, .initialized "java/lang/Math", .code Lib.Math.max.name Lib.Math.max.code 2 (some .int)] ++ wsX10)
def wsX1_addDoor : List Cond := .code yX1_addDoor cX1_addDoor 4 none :: ([.fieldLink RX1 49 "DoorBench" "spans" "LDoorBench$Spans;", .methodLink RX1 179 yX0_widen, .instanceMethod yX0_widen, .selects RX0 yX0_widen yX0_widen, .initialized RX0, .code yX0_widen cX0_widen 6 none, .fieldLink RX0 9 "DoorBench$Spans" "lows" "[I", .fieldLink RX0 15 "DoorBench$Spans" "highs" "[I", .methodLink RX0 18 yX0_at, .static yX0_at, .code yX0_at cX0_at 2 (some .int)] ++ wsX10 ++ wsX00)
def wsX1_gatherChange_r1 : List Cond := [Cond.fieldLink RX1 49 "DoorBench" "spans" "LDoorBench$Spans;", Cond.fieldLink RX1 61 "DoorBench" "doors" "I", Cond.fieldLink RX1 9 "DoorBench" "kinds" "[I", Cond.methodLink RX1 166 yX0_put, Cond.instanceMethod yX0_put, Cond.selects RX0 yX0_put yX0_put, Cond.initialized RX0, Cond.code yX0_put cX0_put 6 none, Cond.fieldLink RX0 9 "DoorBench$Spans" "lows" "[I", Cond.fieldLink RX0 15 "DoorBench$Spans" "highs" "[I", Cond.methodLink RX0 18 yX0_at, Cond.static yX0_at, Cond.code yX0_at cX0_at 2 (some .int), Cond.methodLink RX1 170 yX1_leastNet, Cond.instanceMethod yX1_leastNet, Cond.selects RX1 yX1_leastNet yX1_leastNet, Cond.initialized RX1, Cond.code yX1_leastNet cX1_leastNet 5 (some .int), Cond.fieldLink RX1 22 "DoorBench" "toldIn" "[I", Cond.fieldLink RX1 25 "DoorBench" "toldOut" "[I", Cond.methodLink RX1 72 yX1_place, Cond.static yX1_place, Cond.code yX1_place cX1_place 2 (some .int), Cond.methodLink RX1 159 yX1_leastPassed]
def wsX1_gatherChange_r2 : List Cond := [Cond.instanceMethod yX1_leastPassed, Cond.selects RX1 yX1_leastPassed yX1_leastPassed, Cond.code yX1_leastPassed cX1_leastPassed 4 (some .int), Cond.fieldLink RX1 16 "DoorBench" "doubles" "[I", Cond.methodLink RX1 154 Lib.Math.max.name, Cond.static Lib.Math.max.name, Cond.initialized "java/lang/Math", Cond.code Lib.Math.max.name Lib.Math.max.code 2 (some .int), Cond.methodLink RX1 163 yX1_mostPassed, Cond.instanceMethod yX1_mostPassed, Cond.selects RX1 yX1_mostPassed yX1_mostPassed, Cond.code yX1_mostPassed cX1_mostPassed 4 (some .int), Cond.fieldLink RX1 19 "DoorBench" "caps" "[I", Cond.fieldLink RX1 13 "DoorBench" "misses" "[I", Cond.methodLink RX1 173 yX1_mostNet, Cond.instanceMethod yX1_mostNet, Cond.selects RX1 yX1_mostNet yX1_mostNet, Cond.code yX1_mostNet cX1_mostNet 5 (some .int), Cond.methodLink RX1 176 yX1_addDoor, Cond.instanceMethod yX1_addDoor, Cond.selects RX1 yX1_addDoor yX1_addDoor, Cond.code yX1_addDoor cX1_addDoor 4 none, Cond.methodLink RX1 179 yX0_widen, Cond.instanceMethod yX0_widen]
def wsX1_gatherChange_r3 : List Cond := [Cond.selects RX0 yX0_widen yX0_widen, Cond.code yX0_widen cX0_widen 6 none]
def wsX1_gatherChange : List Cond := .code yX1_gatherChange cX1_gatherChange 5 none :: ((wsX1_gatherChange_r1 ++ (wsX1_gatherChange_r2 ++ wsX1_gatherChange_r3)) ++ wsX10 ++ wsX00)
def wsX1_keepAllowed_r1 : List Cond := [Cond.fieldLink RX1 49 "DoorBench" "spans" "LDoorBench$Spans;", Cond.constant RX1 188 (1000000), Cond.fieldLink RX1 86 "DoorBench" "checks" "I", Cond.fieldLink RX1 34 "DoorBench" "checkTime" "[I", Cond.fieldLink RX1 37 "DoorBench" "checkWhat" "[I", Cond.fieldLink RX1 40 "DoorBench" "checkLow" "[I", Cond.fieldLink RX1 43 "DoorBench" "checkHigh" "[I", Cond.methodLink RX1 189 yX0_cut, Cond.instanceMethod yX0_cut, Cond.selects RX0 yX0_cut yX0_cut, Cond.initialized RX0, Cond.code yX0_cut cX0_cut 6 none, Cond.fieldLink RX0 9 "DoorBench$Spans" "lows" "[I", Cond.methodLink RX0 22 Lib.Math.max.name, Cond.static Lib.Math.max.name, Cond.initialized "java/lang/Math", Cond.code Lib.Math.max.name Lib.Math.max.code 2 (some .int), Cond.fieldLink RX0 15 "DoorBench$Spans" "highs" "[I", Cond.methodLink RX0 27 Lib.Math.min.name, Cond.static Lib.Math.min.name, Cond.code Lib.Math.min.name Lib.Math.min.code 2 (some .int), Cond.methodLink RX0 18 yX0_at, Cond.static yX0_at, Cond.code yX0_at cX0_at 2 (some .int)]
def wsX1_keepAllowed_r2 : List Cond := [Cond.methodLink RX1 192 yX0_tighten, Cond.instanceMethod yX0_tighten, Cond.selects RX0 yX0_tighten yX0_tighten, Cond.code yX0_tighten cX0_tighten 8 (some .boolean), Cond.methodLink RX0 30 yX0_low, Cond.instanceMethod yX0_low, Cond.selects RX0 yX0_low yX0_low, Cond.code yX0_low cX0_low 3 (some .int), Cond.methodLink RX0 33 yX0_high, Cond.instanceMethod yX0_high, Cond.selects RX0 yX0_high yX0_high, Cond.code yX0_high cX0_high 3 (some .int), Cond.methodLink RX0 40 yX0_cut, Cond.methodLink RX0 43 yX0_isSpan, Cond.instanceMethod yX0_isSpan, Cond.selects RX0 yX0_isSpan yX0_isSpan, Cond.code yX0_isSpan cX0_isSpan 3 (some .boolean)]
def wsX1_keepAllowed : List Cond := .code yX1_keepAllowed cX1_keepAllowed 3 (some .boolean) :: ((wsX1_keepAllowed_r1 ++ wsX1_keepAllowed_r2) ++ wsX10 ++ wsX00)
def wsX1_lookAhead_r1 : List Cond := [Cond.fieldLink RX1 49 "DoorBench" "spans" "LDoorBench$Spans;", Cond.fieldLink RX1 28 "DoorBench" "startLow" "[I", Cond.fieldLink RX1 31 "DoorBench" "startHigh" "[I", Cond.fieldLink RX1 141 "DoorBench" "ticks" "I", Cond.methodLink RX1 166 yX0_put, Cond.instanceMethod yX0_put, Cond.selects RX0 yX0_put yX0_put, Cond.initialized RX0, Cond.code yX0_put cX0_put 6 none, Cond.fieldLink RX0 9 "DoorBench$Spans" "lows" "[I", Cond.fieldLink RX0 15 "DoorBench$Spans" "highs" "[I", Cond.methodLink RX0 18 yX0_at, Cond.static yX0_at, Cond.code yX0_at cX0_at 2 (some .int), Cond.methodLink RX1 120 yX1_gatherChange, Cond.instanceMethod yX1_gatherChange, Cond.selects RX1 yX1_gatherChange yX1_gatherChange, Cond.initialized RX1, Cond.code yX1_gatherChange cX1_gatherChange 5 none, Cond.fieldLink RX1 61 "DoorBench" "doors" "I", Cond.fieldLink RX1 9 "DoorBench" "kinds" "[I", Cond.methodLink RX1 170 yX1_leastNet, Cond.instanceMethod yX1_leastNet, Cond.selects RX1 yX1_leastNet yX1_leastNet]
def wsX1_lookAhead_r2 : List Cond := [Cond.code yX1_leastNet cX1_leastNet 5 (some .int), Cond.fieldLink RX1 22 "DoorBench" "toldIn" "[I", Cond.fieldLink RX1 25 "DoorBench" "toldOut" "[I", Cond.methodLink RX1 72 yX1_place, Cond.static yX1_place, Cond.code yX1_place cX1_place 2 (some .int), Cond.methodLink RX1 159 yX1_leastPassed, Cond.instanceMethod yX1_leastPassed, Cond.selects RX1 yX1_leastPassed yX1_leastPassed, Cond.code yX1_leastPassed cX1_leastPassed 4 (some .int), Cond.fieldLink RX1 16 "DoorBench" "doubles" "[I", Cond.methodLink RX1 154 Lib.Math.max.name, Cond.static Lib.Math.max.name, Cond.initialized "java/lang/Math", Cond.code Lib.Math.max.name Lib.Math.max.code 2 (some .int), Cond.methodLink RX1 163 yX1_mostPassed, Cond.instanceMethod yX1_mostPassed, Cond.selects RX1 yX1_mostPassed yX1_mostPassed, Cond.code yX1_mostPassed cX1_mostPassed 4 (some .int), Cond.fieldLink RX1 19 "DoorBench" "caps" "[I", Cond.fieldLink RX1 13 "DoorBench" "misses" "[I", Cond.methodLink RX1 173 yX1_mostNet, Cond.instanceMethod yX1_mostNet, Cond.selects RX1 yX1_mostNet yX1_mostNet]
def wsX1_lookAhead_r3 : List Cond := [Cond.code yX1_mostNet cX1_mostNet 5 (some .int), Cond.methodLink RX1 176 yX1_addDoor, Cond.instanceMethod yX1_addDoor, Cond.selects RX1 yX1_addDoor yX1_addDoor, Cond.code yX1_addDoor cX1_addDoor 4 none, Cond.methodLink RX1 179 yX0_widen, Cond.instanceMethod yX0_widen, Cond.selects RX0 yX0_widen yX0_widen, Cond.code yX0_widen cX0_widen 6 none, Cond.methodLink RX1 182 yX0_putSum, Cond.instanceMethod yX0_putSum, Cond.selects RX0 yX0_putSum yX0_putSum, Cond.code yX0_putSum cX0_putSum 5 none, Cond.methodLink RX0 30 yX0_low, Cond.instanceMethod yX0_low, Cond.selects RX0 yX0_low yX0_low, Cond.code yX0_low cX0_low 3 (some .int), Cond.methodLink RX0 33 yX0_high, Cond.instanceMethod yX0_high, Cond.selects RX0 yX0_high yX0_high, Cond.code yX0_high cX0_high 3 (some .int), Cond.methodLink RX0 36 yX0_put, Cond.methodLink RX1 185 yX1_keepAllowed, Cond.instanceMethod yX1_keepAllowed]
def wsX1_lookAhead_r4 : List Cond := [Cond.selects RX1 yX1_keepAllowed yX1_keepAllowed, Cond.code yX1_keepAllowed cX1_keepAllowed 3 (some .boolean), Cond.constant RX1 188 (1000000), Cond.fieldLink RX1 86 "DoorBench" "checks" "I", Cond.fieldLink RX1 34 "DoorBench" "checkTime" "[I", Cond.fieldLink RX1 37 "DoorBench" "checkWhat" "[I", Cond.fieldLink RX1 40 "DoorBench" "checkLow" "[I", Cond.fieldLink RX1 43 "DoorBench" "checkHigh" "[I", Cond.methodLink RX1 189 yX0_cut, Cond.instanceMethod yX0_cut, Cond.selects RX0 yX0_cut yX0_cut, Cond.code yX0_cut cX0_cut 6 none, Cond.methodLink RX0 22 Lib.Math.max.name, Cond.methodLink RX0 27 Lib.Math.min.name, Cond.static Lib.Math.min.name, Cond.code Lib.Math.min.name Lib.Math.min.code 2 (some .int), Cond.methodLink RX1 192 yX0_tighten, Cond.instanceMethod yX0_tighten, Cond.selects RX0 yX0_tighten yX0_tighten, Cond.code yX0_tighten cX0_tighten 8 (some .boolean), Cond.methodLink RX0 40 yX0_cut, Cond.methodLink RX0 43 yX0_isSpan, Cond.instanceMethod yX0_isSpan, Cond.selects RX0 yX0_isSpan yX0_isSpan]
def wsX1_lookAhead_r5 : List Cond := [Cond.code yX0_isSpan cX0_isSpan 3 (some .boolean)]
def wsX1_lookAhead : List Cond := .code yX1_lookAhead cX1_lookAhead 3 (some .int) :: ((wsX1_lookAhead_r1 ++ (wsX1_lookAhead_r2 ++ (wsX1_lookAhead_r3 ++ (wsX1_lookAhead_r4 ++ wsX1_lookAhead_r5)))) ++ wsX10 ++ wsX00)
def wsX1_fits_r1 : List Cond := [Cond.methodLink RX1 89 yX1_lookAhead, Cond.instanceMethod yX1_lookAhead, Cond.selects RX1 yX1_lookAhead yX1_lookAhead, Cond.initialized RX1, Cond.code yX1_lookAhead cX1_lookAhead 3 (some .int), Cond.fieldLink RX1 49 "DoorBench" "spans" "LDoorBench$Spans;", Cond.fieldLink RX1 28 "DoorBench" "startLow" "[I", Cond.fieldLink RX1 31 "DoorBench" "startHigh" "[I", Cond.fieldLink RX1 141 "DoorBench" "ticks" "I", Cond.methodLink RX1 166 yX0_put, Cond.instanceMethod yX0_put, Cond.selects RX0 yX0_put yX0_put, Cond.initialized RX0, Cond.code yX0_put cX0_put 6 none, Cond.fieldLink RX0 9 "DoorBench$Spans" "lows" "[I", Cond.fieldLink RX0 15 "DoorBench$Spans" "highs" "[I", Cond.methodLink RX0 18 yX0_at, Cond.static yX0_at, Cond.code yX0_at cX0_at 2 (some .int), Cond.methodLink RX1 120 yX1_gatherChange, Cond.instanceMethod yX1_gatherChange, Cond.selects RX1 yX1_gatherChange yX1_gatherChange, Cond.code yX1_gatherChange cX1_gatherChange 5 none, Cond.fieldLink RX1 61 "DoorBench" "doors" "I"]
def wsX1_fits_r2 : List Cond := [Cond.fieldLink RX1 9 "DoorBench" "kinds" "[I", Cond.methodLink RX1 170 yX1_leastNet, Cond.instanceMethod yX1_leastNet, Cond.selects RX1 yX1_leastNet yX1_leastNet, Cond.code yX1_leastNet cX1_leastNet 5 (some .int), Cond.fieldLink RX1 22 "DoorBench" "toldIn" "[I", Cond.fieldLink RX1 25 "DoorBench" "toldOut" "[I", Cond.methodLink RX1 72 yX1_place, Cond.static yX1_place, Cond.code yX1_place cX1_place 2 (some .int), Cond.methodLink RX1 159 yX1_leastPassed, Cond.instanceMethod yX1_leastPassed, Cond.selects RX1 yX1_leastPassed yX1_leastPassed, Cond.code yX1_leastPassed cX1_leastPassed 4 (some .int), Cond.fieldLink RX1 16 "DoorBench" "doubles" "[I", Cond.methodLink RX1 154 Lib.Math.max.name, Cond.static Lib.Math.max.name, Cond.initialized "java/lang/Math", Cond.code Lib.Math.max.name Lib.Math.max.code 2 (some .int), Cond.methodLink RX1 163 yX1_mostPassed, Cond.instanceMethod yX1_mostPassed, Cond.selects RX1 yX1_mostPassed yX1_mostPassed, Cond.code yX1_mostPassed cX1_mostPassed 4 (some .int), Cond.fieldLink RX1 19 "DoorBench" "caps" "[I"]
def wsX1_fits_r3 : List Cond := [Cond.fieldLink RX1 13 "DoorBench" "misses" "[I", Cond.methodLink RX1 173 yX1_mostNet, Cond.instanceMethod yX1_mostNet, Cond.selects RX1 yX1_mostNet yX1_mostNet, Cond.code yX1_mostNet cX1_mostNet 5 (some .int), Cond.methodLink RX1 176 yX1_addDoor, Cond.instanceMethod yX1_addDoor, Cond.selects RX1 yX1_addDoor yX1_addDoor, Cond.code yX1_addDoor cX1_addDoor 4 none, Cond.methodLink RX1 179 yX0_widen, Cond.instanceMethod yX0_widen, Cond.selects RX0 yX0_widen yX0_widen, Cond.code yX0_widen cX0_widen 6 none, Cond.methodLink RX1 182 yX0_putSum, Cond.instanceMethod yX0_putSum, Cond.selects RX0 yX0_putSum yX0_putSum, Cond.code yX0_putSum cX0_putSum 5 none, Cond.methodLink RX0 30 yX0_low, Cond.instanceMethod yX0_low, Cond.selects RX0 yX0_low yX0_low, Cond.code yX0_low cX0_low 3 (some .int), Cond.methodLink RX0 33 yX0_high, Cond.instanceMethod yX0_high, Cond.selects RX0 yX0_high yX0_high]
def wsX1_fits_r4 : List Cond := [Cond.code yX0_high cX0_high 3 (some .int), Cond.methodLink RX0 36 yX0_put, Cond.methodLink RX1 185 yX1_keepAllowed, Cond.instanceMethod yX1_keepAllowed, Cond.selects RX1 yX1_keepAllowed yX1_keepAllowed, Cond.code yX1_keepAllowed cX1_keepAllowed 3 (some .boolean), Cond.constant RX1 188 (1000000), Cond.fieldLink RX1 86 "DoorBench" "checks" "I", Cond.fieldLink RX1 34 "DoorBench" "checkTime" "[I", Cond.fieldLink RX1 37 "DoorBench" "checkWhat" "[I", Cond.fieldLink RX1 40 "DoorBench" "checkLow" "[I", Cond.fieldLink RX1 43 "DoorBench" "checkHigh" "[I", Cond.methodLink RX1 189 yX0_cut, Cond.instanceMethod yX0_cut, Cond.selects RX0 yX0_cut yX0_cut, Cond.code yX0_cut cX0_cut 6 none, Cond.methodLink RX0 22 Lib.Math.max.name, Cond.methodLink RX0 27 Lib.Math.min.name, Cond.static Lib.Math.min.name, Cond.code Lib.Math.min.name Lib.Math.min.code 2 (some .int), Cond.methodLink RX1 192 yX0_tighten, Cond.instanceMethod yX0_tighten, Cond.selects RX0 yX0_tighten yX0_tighten, Cond.code yX0_tighten cX0_tighten 8 (some .boolean)]
def wsX1_fits_r5 : List Cond := [Cond.methodLink RX0 40 yX0_cut, Cond.methodLink RX0 43 yX0_isSpan, Cond.instanceMethod yX0_isSpan, Cond.selects RX0 yX0_isSpan yX0_isSpan, Cond.code yX0_isSpan cX0_isSpan 3 (some .boolean)]
def wsX1_fits : List Cond := .code yX1_fits cX1_fits 1 (some .int) :: ((wsX1_fits_r1 ++ (wsX1_fits_r2 ++ (wsX1_fits_r3 ++ (wsX1_fits_r4 ++ wsX1_fits_r5)))) ++ wsX10 ++ wsX00)
def wsX1_lookBackTo_r1 : List Cond := [Cond.fieldLink RX1 141 "DoorBench" "ticks" "I", Cond.fieldLink RX1 49 "DoorBench" "spans" "LDoorBench$Spans;", Cond.methodLink RX1 120 yX1_gatherChange, Cond.instanceMethod yX1_gatherChange, Cond.selects RX1 yX1_gatherChange yX1_gatherChange, Cond.initialized RX1, Cond.code yX1_gatherChange cX1_gatherChange 5 none, Cond.fieldLink RX1 61 "DoorBench" "doors" "I", Cond.fieldLink RX1 9 "DoorBench" "kinds" "[I", Cond.methodLink RX1 166 yX0_put, Cond.instanceMethod yX0_put, Cond.selects RX0 yX0_put yX0_put, Cond.initialized RX0, Cond.code yX0_put cX0_put 6 none, Cond.fieldLink RX0 9 "DoorBench$Spans" "lows" "[I", Cond.fieldLink RX0 15 "DoorBench$Spans" "highs" "[I", Cond.methodLink RX0 18 yX0_at, Cond.static yX0_at, Cond.code yX0_at cX0_at 2 (some .int), Cond.methodLink RX1 170 yX1_leastNet, Cond.instanceMethod yX1_leastNet, Cond.selects RX1 yX1_leastNet yX1_leastNet, Cond.code yX1_leastNet cX1_leastNet 5 (some .int), Cond.fieldLink RX1 22 "DoorBench" "toldIn" "[I"]
def wsX1_lookBackTo_r2 : List Cond := [Cond.fieldLink RX1 25 "DoorBench" "toldOut" "[I", Cond.methodLink RX1 72 yX1_place, Cond.static yX1_place, Cond.code yX1_place cX1_place 2 (some .int), Cond.methodLink RX1 159 yX1_leastPassed, Cond.instanceMethod yX1_leastPassed, Cond.selects RX1 yX1_leastPassed yX1_leastPassed, Cond.code yX1_leastPassed cX1_leastPassed 4 (some .int), Cond.fieldLink RX1 16 "DoorBench" "doubles" "[I", Cond.methodLink RX1 154 Lib.Math.max.name, Cond.static Lib.Math.max.name, Cond.initialized "java/lang/Math", Cond.code Lib.Math.max.name Lib.Math.max.code 2 (some .int), Cond.methodLink RX1 163 yX1_mostPassed, Cond.instanceMethod yX1_mostPassed, Cond.selects RX1 yX1_mostPassed yX1_mostPassed, Cond.code yX1_mostPassed cX1_mostPassed 4 (some .int), Cond.fieldLink RX1 19 "DoorBench" "caps" "[I", Cond.fieldLink RX1 13 "DoorBench" "misses" "[I", Cond.methodLink RX1 173 yX1_mostNet, Cond.instanceMethod yX1_mostNet, Cond.selects RX1 yX1_mostNet yX1_mostNet, Cond.code yX1_mostNet cX1_mostNet 5 (some .int), Cond.methodLink RX1 176 yX1_addDoor]
def wsX1_lookBackTo_r3 : List Cond := [Cond.instanceMethod yX1_addDoor, Cond.selects RX1 yX1_addDoor yX1_addDoor, Cond.code yX1_addDoor cX1_addDoor 4 none, Cond.methodLink RX1 179 yX0_widen, Cond.instanceMethod yX0_widen, Cond.selects RX0 yX0_widen yX0_widen, Cond.code yX0_widen cX0_widen 6 none, Cond.methodLink RX1 195 yX0_cutByDifference, Cond.instanceMethod yX0_cutByDifference, Cond.selects RX0 yX0_cutByDifference yX0_cutByDifference, Cond.code yX0_cutByDifference cX0_cutByDifference 5 none, Cond.methodLink RX0 30 yX0_low, Cond.instanceMethod yX0_low, Cond.selects RX0 yX0_low yX0_low, Cond.code yX0_low cX0_low 3 (some .int), Cond.methodLink RX0 33 yX0_high, Cond.instanceMethod yX0_high, Cond.selects RX0 yX0_high yX0_high, Cond.code yX0_high cX0_high 3 (some .int), Cond.methodLink RX0 40 yX0_cut, Cond.instanceMethod yX0_cut, Cond.selects RX0 yX0_cut yX0_cut, Cond.code yX0_cut cX0_cut 6 none, Cond.methodLink RX0 22 Lib.Math.max.name]
def wsX1_lookBackTo_r4 : List Cond := [Cond.methodLink RX0 27 Lib.Math.min.name, Cond.static Lib.Math.min.name, Cond.code Lib.Math.min.name Lib.Math.min.code 2 (some .int), Cond.methodLink RX1 192 yX0_tighten, Cond.instanceMethod yX0_tighten, Cond.selects RX0 yX0_tighten yX0_tighten, Cond.code yX0_tighten cX0_tighten 8 (some .boolean), Cond.methodLink RX0 43 yX0_isSpan, Cond.instanceMethod yX0_isSpan, Cond.selects RX0 yX0_isSpan yX0_isSpan, Cond.code yX0_isSpan cX0_isSpan 3 (some .boolean)]
def wsX1_lookBackTo : List Cond := .code yX1_lookBackTo cX1_lookBackTo 3 none :: ((wsX1_lookBackTo_r1 ++ (wsX1_lookBackTo_r2 ++ (wsX1_lookBackTo_r3 ++ wsX1_lookBackTo_r4))) ++ wsX10 ++ wsX00)
def wsX1_inside_r1 : List Cond := [Cond.classLink RX1 93 "java/lang/IndexOutOfBoundsException", Cond.initialized "java/lang/IndexOutOfBoundsException", Cond.classLink RX1 100 "java/util/NoSuchElementException", Cond.initialized "java/util/NoSuchElementException", Cond.fieldLink RX1 49 "DoorBench" "spans" "LDoorBench$Spans;", Cond.methodLink RX1 80 yX1_isTime, Cond.instanceMethod yX1_isTime, Cond.selects RX1 yX1_isTime yX1_isTime, Cond.initialized RX1, Cond.code yX1_isTime cX1_isTime 2 (some .boolean), Cond.fieldLink RX1 141 "DoorBench" "ticks" "I", Cond.methodLink RX1 57 yX1_within, Cond.static yX1_within, Cond.code yX1_within cX1_within 3 (some .boolean), Cond.methodLink RX1 83 yX1_isWhat, Cond.static yX1_isWhat, Cond.code yX1_isWhat cX1_isWhat 1 (some .boolean), Cond.methodLink RX1 89 yX1_lookAhead, Cond.instanceMethod yX1_lookAhead, Cond.selects RX1 yX1_lookAhead yX1_lookAhead, Cond.code yX1_lookAhead cX1_lookAhead 3 (some .int), Cond.fieldLink RX1 28 "DoorBench" "startLow" "[I", Cond.fieldLink RX1 31 "DoorBench" "startHigh" "[I", Cond.methodLink RX1 166 yX0_put]
def wsX1_inside_r2 : List Cond := [Cond.instanceMethod yX0_put, Cond.selects RX0 yX0_put yX0_put, Cond.initialized RX0, Cond.code yX0_put cX0_put 6 none, Cond.fieldLink RX0 9 "DoorBench$Spans" "lows" "[I", Cond.fieldLink RX0 15 "DoorBench$Spans" "highs" "[I", Cond.methodLink RX0 18 yX0_at, Cond.static yX0_at, Cond.code yX0_at cX0_at 2 (some .int), Cond.methodLink RX1 120 yX1_gatherChange, Cond.instanceMethod yX1_gatherChange, Cond.selects RX1 yX1_gatherChange yX1_gatherChange, Cond.code yX1_gatherChange cX1_gatherChange 5 none, Cond.fieldLink RX1 61 "DoorBench" "doors" "I", Cond.fieldLink RX1 9 "DoorBench" "kinds" "[I", Cond.methodLink RX1 170 yX1_leastNet, Cond.instanceMethod yX1_leastNet, Cond.selects RX1 yX1_leastNet yX1_leastNet, Cond.code yX1_leastNet cX1_leastNet 5 (some .int), Cond.fieldLink RX1 22 "DoorBench" "toldIn" "[I", Cond.fieldLink RX1 25 "DoorBench" "toldOut" "[I", Cond.methodLink RX1 72 yX1_place, Cond.static yX1_place, Cond.code yX1_place cX1_place 2 (some .int)]
def wsX1_inside_r3 : List Cond := [Cond.methodLink RX1 159 yX1_leastPassed, Cond.instanceMethod yX1_leastPassed, Cond.selects RX1 yX1_leastPassed yX1_leastPassed, Cond.code yX1_leastPassed cX1_leastPassed 4 (some .int), Cond.fieldLink RX1 16 "DoorBench" "doubles" "[I", Cond.methodLink RX1 154 Lib.Math.max.name, Cond.static Lib.Math.max.name, Cond.initialized "java/lang/Math", Cond.code Lib.Math.max.name Lib.Math.max.code 2 (some .int), Cond.methodLink RX1 163 yX1_mostPassed, Cond.instanceMethod yX1_mostPassed, Cond.selects RX1 yX1_mostPassed yX1_mostPassed, Cond.code yX1_mostPassed cX1_mostPassed 4 (some .int), Cond.fieldLink RX1 19 "DoorBench" "caps" "[I", Cond.fieldLink RX1 13 "DoorBench" "misses" "[I", Cond.methodLink RX1 173 yX1_mostNet, Cond.instanceMethod yX1_mostNet, Cond.selects RX1 yX1_mostNet yX1_mostNet, Cond.code yX1_mostNet cX1_mostNet 5 (some .int), Cond.methodLink RX1 176 yX1_addDoor, Cond.instanceMethod yX1_addDoor, Cond.selects RX1 yX1_addDoor yX1_addDoor, Cond.code yX1_addDoor cX1_addDoor 4 none, Cond.methodLink RX1 179 yX0_widen]
def wsX1_inside_r4 : List Cond := [Cond.instanceMethod yX0_widen, Cond.selects RX0 yX0_widen yX0_widen, Cond.code yX0_widen cX0_widen 6 none, Cond.methodLink RX1 182 yX0_putSum, Cond.instanceMethod yX0_putSum, Cond.selects RX0 yX0_putSum yX0_putSum, Cond.code yX0_putSum cX0_putSum 5 none, Cond.methodLink RX0 30 yX0_low, Cond.instanceMethod yX0_low, Cond.selects RX0 yX0_low yX0_low, Cond.code yX0_low cX0_low 3 (some .int), Cond.methodLink RX0 33 yX0_high, Cond.instanceMethod yX0_high, Cond.selects RX0 yX0_high yX0_high, Cond.code yX0_high cX0_high 3 (some .int), Cond.methodLink RX0 36 yX0_put, Cond.methodLink RX1 185 yX1_keepAllowed, Cond.instanceMethod yX1_keepAllowed, Cond.selects RX1 yX1_keepAllowed yX1_keepAllowed, Cond.code yX1_keepAllowed cX1_keepAllowed 3 (some .boolean), Cond.constant RX1 188 (1000000), Cond.fieldLink RX1 86 "DoorBench" "checks" "I", Cond.fieldLink RX1 34 "DoorBench" "checkTime" "[I", Cond.fieldLink RX1 37 "DoorBench" "checkWhat" "[I"]
def wsX1_inside_r5 : List Cond := [Cond.fieldLink RX1 40 "DoorBench" "checkLow" "[I", Cond.fieldLink RX1 43 "DoorBench" "checkHigh" "[I", Cond.methodLink RX1 189 yX0_cut, Cond.instanceMethod yX0_cut, Cond.selects RX0 yX0_cut yX0_cut, Cond.code yX0_cut cX0_cut 6 none, Cond.methodLink RX0 22 Lib.Math.max.name, Cond.methodLink RX0 27 Lib.Math.min.name, Cond.static Lib.Math.min.name, Cond.code Lib.Math.min.name Lib.Math.min.code 2 (some .int), Cond.methodLink RX1 192 yX0_tighten, Cond.instanceMethod yX0_tighten, Cond.selects RX0 yX0_tighten yX0_tighten, Cond.code yX0_tighten cX0_tighten 8 (some .boolean), Cond.methodLink RX0 40 yX0_cut, Cond.methodLink RX0 43 yX0_isSpan, Cond.instanceMethod yX0_isSpan, Cond.selects RX0 yX0_isSpan yX0_isSpan, Cond.code yX0_isSpan cX0_isSpan 3 (some .boolean), Cond.methodLink RX1 105 yX1_lookBackTo, Cond.instanceMethod yX1_lookBackTo, Cond.selects RX1 yX1_lookBackTo yX1_lookBackTo, Cond.code yX1_lookBackTo cX1_lookBackTo 3 none, Cond.methodLink RX1 195 yX0_cutByDifference]
def wsX1_inside_r6 : List Cond := [Cond.instanceMethod yX0_cutByDifference, Cond.selects RX0 yX0_cutByDifference yX0_cutByDifference, Cond.code yX0_cutByDifference cX0_cutByDifference 5 none, Cond.methodLink RX1 108 yX0_high, Cond.methodLink RX1 111 yX0_low]
def wsX1_inside : List Cond := .code yX1_inside cX1_inside 4 (some .int) :: ((wsX1_inside_r1 ++ (wsX1_inside_r2 ++ (wsX1_inside_r3 ++ (wsX1_inside_r4 ++ (wsX1_inside_r5 ++ wsX1_inside_r6))))) ++ wsX10 ++ wsX00 ++ (vx_atS RX1 97 "java/lang/IndexOutOfBoundsException" ["java/lang/RuntimeException", "java/lang/Exception"]).filter goodWord ++ (vx_atS RX1 104 "java/util/NoSuchElementException" ["java/lang/RuntimeException", "java/lang/Exception"]).filter goodWord)
def wsX1_firstAbove_r1 : List Cond := [Cond.constant RX1 198 (99999), Cond.fieldLink RX1 141 "DoorBench" "ticks" "I", Cond.fieldLink RX1 49 "DoorBench" "spans" "LDoorBench$Spans;", Cond.methodLink RX1 57 yX1_within, Cond.static yX1_within, Cond.initialized RX1, Cond.code yX1_within cX1_within 3 (some .boolean), Cond.methodLink RX1 89 yX1_lookAhead, Cond.instanceMethod yX1_lookAhead, Cond.selects RX1 yX1_lookAhead yX1_lookAhead, Cond.code yX1_lookAhead cX1_lookAhead 3 (some .int), Cond.fieldLink RX1 28 "DoorBench" "startLow" "[I", Cond.fieldLink RX1 31 "DoorBench" "startHigh" "[I", Cond.methodLink RX1 166 yX0_put, Cond.instanceMethod yX0_put, Cond.selects RX0 yX0_put yX0_put, Cond.initialized RX0, Cond.code yX0_put cX0_put 6 none, Cond.fieldLink RX0 9 "DoorBench$Spans" "lows" "[I", Cond.fieldLink RX0 15 "DoorBench$Spans" "highs" "[I", Cond.methodLink RX0 18 yX0_at, Cond.static yX0_at, Cond.code yX0_at cX0_at 2 (some .int), Cond.methodLink RX1 120 yX1_gatherChange]
def wsX1_firstAbove_r2 : List Cond := [Cond.instanceMethod yX1_gatherChange, Cond.selects RX1 yX1_gatherChange yX1_gatherChange, Cond.code yX1_gatherChange cX1_gatherChange 5 none, Cond.fieldLink RX1 61 "DoorBench" "doors" "I", Cond.fieldLink RX1 9 "DoorBench" "kinds" "[I", Cond.methodLink RX1 170 yX1_leastNet, Cond.instanceMethod yX1_leastNet, Cond.selects RX1 yX1_leastNet yX1_leastNet, Cond.code yX1_leastNet cX1_leastNet 5 (some .int), Cond.fieldLink RX1 22 "DoorBench" "toldIn" "[I", Cond.fieldLink RX1 25 "DoorBench" "toldOut" "[I", Cond.methodLink RX1 72 yX1_place, Cond.static yX1_place, Cond.code yX1_place cX1_place 2 (some .int), Cond.methodLink RX1 159 yX1_leastPassed, Cond.instanceMethod yX1_leastPassed, Cond.selects RX1 yX1_leastPassed yX1_leastPassed, Cond.code yX1_leastPassed cX1_leastPassed 4 (some .int), Cond.fieldLink RX1 16 "DoorBench" "doubles" "[I", Cond.methodLink RX1 154 Lib.Math.max.name, Cond.static Lib.Math.max.name, Cond.initialized "java/lang/Math", Cond.code Lib.Math.max.name Lib.Math.max.code 2 (some .int), Cond.methodLink RX1 163 yX1_mostPassed]
def wsX1_firstAbove_r3 : List Cond := [Cond.instanceMethod yX1_mostPassed, Cond.selects RX1 yX1_mostPassed yX1_mostPassed, Cond.code yX1_mostPassed cX1_mostPassed 4 (some .int), Cond.fieldLink RX1 19 "DoorBench" "caps" "[I", Cond.fieldLink RX1 13 "DoorBench" "misses" "[I", Cond.methodLink RX1 173 yX1_mostNet, Cond.instanceMethod yX1_mostNet, Cond.selects RX1 yX1_mostNet yX1_mostNet, Cond.code yX1_mostNet cX1_mostNet 5 (some .int), Cond.methodLink RX1 176 yX1_addDoor, Cond.instanceMethod yX1_addDoor, Cond.selects RX1 yX1_addDoor yX1_addDoor, Cond.code yX1_addDoor cX1_addDoor 4 none, Cond.methodLink RX1 179 yX0_widen, Cond.instanceMethod yX0_widen, Cond.selects RX0 yX0_widen yX0_widen, Cond.code yX0_widen cX0_widen 6 none, Cond.methodLink RX1 182 yX0_putSum, Cond.instanceMethod yX0_putSum, Cond.selects RX0 yX0_putSum yX0_putSum, Cond.code yX0_putSum cX0_putSum 5 none, Cond.methodLink RX0 30 yX0_low, Cond.instanceMethod yX0_low, Cond.selects RX0 yX0_low yX0_low]
def wsX1_firstAbove_r4 : List Cond := [Cond.code yX0_low cX0_low 3 (some .int), Cond.methodLink RX0 33 yX0_high, Cond.instanceMethod yX0_high, Cond.selects RX0 yX0_high yX0_high, Cond.code yX0_high cX0_high 3 (some .int), Cond.methodLink RX0 36 yX0_put, Cond.methodLink RX1 185 yX1_keepAllowed, Cond.instanceMethod yX1_keepAllowed, Cond.selects RX1 yX1_keepAllowed yX1_keepAllowed, Cond.code yX1_keepAllowed cX1_keepAllowed 3 (some .boolean), Cond.constant RX1 188 (1000000), Cond.fieldLink RX1 86 "DoorBench" "checks" "I", Cond.fieldLink RX1 34 "DoorBench" "checkTime" "[I", Cond.fieldLink RX1 37 "DoorBench" "checkWhat" "[I", Cond.fieldLink RX1 40 "DoorBench" "checkLow" "[I", Cond.fieldLink RX1 43 "DoorBench" "checkHigh" "[I", Cond.methodLink RX1 189 yX0_cut, Cond.instanceMethod yX0_cut, Cond.selects RX0 yX0_cut yX0_cut, Cond.code yX0_cut cX0_cut 6 none, Cond.methodLink RX0 22 Lib.Math.max.name, Cond.methodLink RX0 27 Lib.Math.min.name, Cond.static Lib.Math.min.name, Cond.code Lib.Math.min.name Lib.Math.min.code 2 (some .int)]
def wsX1_firstAbove_r5 : List Cond := [Cond.methodLink RX1 192 yX0_tighten, Cond.instanceMethod yX0_tighten, Cond.selects RX0 yX0_tighten yX0_tighten, Cond.code yX0_tighten cX0_tighten 8 (some .boolean), Cond.methodLink RX0 40 yX0_cut, Cond.methodLink RX0 43 yX0_isSpan, Cond.instanceMethod yX0_isSpan, Cond.selects RX0 yX0_isSpan yX0_isSpan, Cond.code yX0_isSpan cX0_isSpan 3 (some .boolean), Cond.methodLink RX1 105 yX1_lookBackTo, Cond.instanceMethod yX1_lookBackTo, Cond.selects RX1 yX1_lookBackTo yX1_lookBackTo, Cond.code yX1_lookBackTo cX1_lookBackTo 3 none, Cond.methodLink RX1 195 yX0_cutByDifference, Cond.instanceMethod yX0_cutByDifference, Cond.selects RX0 yX0_cutByDifference yX0_cutByDifference, Cond.code yX0_cutByDifference cX0_cutByDifference 5 none, Cond.methodLink RX1 108 yX0_high, Cond.methodLink RX1 111 yX0_low]
def wsX1_firstAbove : List Cond := .code yX1_firstAbove cX1_firstAbove 5 (some .int) :: ((wsX1_firstAbove_r1 ++ (wsX1_firstAbove_r2 ++ (wsX1_firstAbove_r3 ++ (wsX1_firstAbove_r4 ++ wsX1_firstAbove_r5)))) ++ wsX10 ++ wsX00)
def wsX1_could_r1 : List Cond := [Cond.methodLink RX1 114 yX1_firstAbove, Cond.instanceMethod yX1_firstAbove, Cond.selects RX1 yX1_firstAbove yX1_firstAbove, Cond.initialized RX1, Cond.code yX1_firstAbove cX1_firstAbove 5 (some .int), Cond.constant RX1 198 (99999), Cond.fieldLink RX1 141 "DoorBench" "ticks" "I", Cond.fieldLink RX1 49 "DoorBench" "spans" "LDoorBench$Spans;", Cond.methodLink RX1 57 yX1_within, Cond.static yX1_within, Cond.code yX1_within cX1_within 3 (some .boolean), Cond.methodLink RX1 89 yX1_lookAhead, Cond.instanceMethod yX1_lookAhead, Cond.selects RX1 yX1_lookAhead yX1_lookAhead, Cond.code yX1_lookAhead cX1_lookAhead 3 (some .int), Cond.fieldLink RX1 28 "DoorBench" "startLow" "[I", Cond.fieldLink RX1 31 "DoorBench" "startHigh" "[I", Cond.methodLink RX1 166 yX0_put, Cond.instanceMethod yX0_put, Cond.selects RX0 yX0_put yX0_put, Cond.initialized RX0, Cond.code yX0_put cX0_put 6 none, Cond.fieldLink RX0 9 "DoorBench$Spans" "lows" "[I", Cond.fieldLink RX0 15 "DoorBench$Spans" "highs" "[I"]
def wsX1_could_r2 : List Cond := [Cond.methodLink RX0 18 yX0_at, Cond.static yX0_at, Cond.code yX0_at cX0_at 2 (some .int), Cond.methodLink RX1 120 yX1_gatherChange, Cond.instanceMethod yX1_gatherChange, Cond.selects RX1 yX1_gatherChange yX1_gatherChange, Cond.code yX1_gatherChange cX1_gatherChange 5 none, Cond.fieldLink RX1 61 "DoorBench" "doors" "I", Cond.fieldLink RX1 9 "DoorBench" "kinds" "[I", Cond.methodLink RX1 170 yX1_leastNet, Cond.instanceMethod yX1_leastNet, Cond.selects RX1 yX1_leastNet yX1_leastNet, Cond.code yX1_leastNet cX1_leastNet 5 (some .int), Cond.fieldLink RX1 22 "DoorBench" "toldIn" "[I", Cond.fieldLink RX1 25 "DoorBench" "toldOut" "[I", Cond.methodLink RX1 72 yX1_place, Cond.static yX1_place, Cond.code yX1_place cX1_place 2 (some .int), Cond.methodLink RX1 159 yX1_leastPassed, Cond.instanceMethod yX1_leastPassed, Cond.selects RX1 yX1_leastPassed yX1_leastPassed, Cond.code yX1_leastPassed cX1_leastPassed 4 (some .int), Cond.fieldLink RX1 16 "DoorBench" "doubles" "[I", Cond.methodLink RX1 154 Lib.Math.max.name]
def wsX1_could_r3 : List Cond := [Cond.static Lib.Math.max.name, Cond.initialized "java/lang/Math", Cond.code Lib.Math.max.name Lib.Math.max.code 2 (some .int), Cond.methodLink RX1 163 yX1_mostPassed, Cond.instanceMethod yX1_mostPassed, Cond.selects RX1 yX1_mostPassed yX1_mostPassed, Cond.code yX1_mostPassed cX1_mostPassed 4 (some .int), Cond.fieldLink RX1 19 "DoorBench" "caps" "[I", Cond.fieldLink RX1 13 "DoorBench" "misses" "[I", Cond.methodLink RX1 173 yX1_mostNet, Cond.instanceMethod yX1_mostNet, Cond.selects RX1 yX1_mostNet yX1_mostNet, Cond.code yX1_mostNet cX1_mostNet 5 (some .int), Cond.methodLink RX1 176 yX1_addDoor, Cond.instanceMethod yX1_addDoor, Cond.selects RX1 yX1_addDoor yX1_addDoor, Cond.code yX1_addDoor cX1_addDoor 4 none, Cond.methodLink RX1 179 yX0_widen, Cond.instanceMethod yX0_widen, Cond.selects RX0 yX0_widen yX0_widen, Cond.code yX0_widen cX0_widen 6 none, Cond.methodLink RX1 182 yX0_putSum, Cond.instanceMethod yX0_putSum, Cond.selects RX0 yX0_putSum yX0_putSum]
def wsX1_could_r4 : List Cond := [Cond.code yX0_putSum cX0_putSum 5 none, Cond.methodLink RX0 30 yX0_low, Cond.instanceMethod yX0_low, Cond.selects RX0 yX0_low yX0_low, Cond.code yX0_low cX0_low 3 (some .int), Cond.methodLink RX0 33 yX0_high, Cond.instanceMethod yX0_high, Cond.selects RX0 yX0_high yX0_high, Cond.code yX0_high cX0_high 3 (some .int), Cond.methodLink RX0 36 yX0_put, Cond.methodLink RX1 185 yX1_keepAllowed, Cond.instanceMethod yX1_keepAllowed, Cond.selects RX1 yX1_keepAllowed yX1_keepAllowed, Cond.code yX1_keepAllowed cX1_keepAllowed 3 (some .boolean), Cond.constant RX1 188 (1000000), Cond.fieldLink RX1 86 "DoorBench" "checks" "I", Cond.fieldLink RX1 34 "DoorBench" "checkTime" "[I", Cond.fieldLink RX1 37 "DoorBench" "checkWhat" "[I", Cond.fieldLink RX1 40 "DoorBench" "checkLow" "[I", Cond.fieldLink RX1 43 "DoorBench" "checkHigh" "[I", Cond.methodLink RX1 189 yX0_cut, Cond.instanceMethod yX0_cut, Cond.selects RX0 yX0_cut yX0_cut, Cond.code yX0_cut cX0_cut 6 none]
def wsX1_could_r5 : List Cond := [Cond.methodLink RX0 22 Lib.Math.max.name, Cond.methodLink RX0 27 Lib.Math.min.name, Cond.static Lib.Math.min.name, Cond.code Lib.Math.min.name Lib.Math.min.code 2 (some .int), Cond.methodLink RX1 192 yX0_tighten, Cond.instanceMethod yX0_tighten, Cond.selects RX0 yX0_tighten yX0_tighten, Cond.code yX0_tighten cX0_tighten 8 (some .boolean), Cond.methodLink RX0 40 yX0_cut, Cond.methodLink RX0 43 yX0_isSpan, Cond.instanceMethod yX0_isSpan, Cond.selects RX0 yX0_isSpan yX0_isSpan, Cond.code yX0_isSpan cX0_isSpan 3 (some .boolean), Cond.methodLink RX1 105 yX1_lookBackTo, Cond.instanceMethod yX1_lookBackTo, Cond.selects RX1 yX1_lookBackTo yX1_lookBackTo, Cond.code yX1_lookBackTo cX1_lookBackTo 3 none, Cond.methodLink RX1 195 yX0_cutByDifference, Cond.instanceMethod yX0_cutByDifference, Cond.selects RX0 yX0_cutByDifference yX0_cutByDifference, Cond.code yX0_cutByDifference cX0_cutByDifference 5 none, Cond.methodLink RX1 108 yX0_high, Cond.methodLink RX1 111 yX0_low]
def wsX1_could : List Cond := .code yX1_could cX1_could 2 (some .int) :: ((wsX1_could_r1 ++ (wsX1_could_r2 ++ (wsX1_could_r3 ++ (wsX1_could_r4 ++ wsX1_could_r5)))) ++ wsX10 ++ wsX00)
def wsX1_surely_r1 : List Cond := [Cond.methodLink RX1 114 yX1_firstAbove, Cond.instanceMethod yX1_firstAbove, Cond.selects RX1 yX1_firstAbove yX1_firstAbove, Cond.initialized RX1, Cond.code yX1_firstAbove cX1_firstAbove 5 (some .int), Cond.constant RX1 198 (99999), Cond.fieldLink RX1 141 "DoorBench" "ticks" "I", Cond.fieldLink RX1 49 "DoorBench" "spans" "LDoorBench$Spans;", Cond.methodLink RX1 57 yX1_within, Cond.static yX1_within, Cond.code yX1_within cX1_within 3 (some .boolean), Cond.methodLink RX1 89 yX1_lookAhead, Cond.instanceMethod yX1_lookAhead, Cond.selects RX1 yX1_lookAhead yX1_lookAhead, Cond.code yX1_lookAhead cX1_lookAhead 3 (some .int), Cond.fieldLink RX1 28 "DoorBench" "startLow" "[I", Cond.fieldLink RX1 31 "DoorBench" "startHigh" "[I", Cond.methodLink RX1 166 yX0_put, Cond.instanceMethod yX0_put, Cond.selects RX0 yX0_put yX0_put, Cond.initialized RX0, Cond.code yX0_put cX0_put 6 none, Cond.fieldLink RX0 9 "DoorBench$Spans" "lows" "[I", Cond.fieldLink RX0 15 "DoorBench$Spans" "highs" "[I"]
def wsX1_surely_r2 : List Cond := [Cond.methodLink RX0 18 yX0_at, Cond.static yX0_at, Cond.code yX0_at cX0_at 2 (some .int), Cond.methodLink RX1 120 yX1_gatherChange, Cond.instanceMethod yX1_gatherChange, Cond.selects RX1 yX1_gatherChange yX1_gatherChange, Cond.code yX1_gatherChange cX1_gatherChange 5 none, Cond.fieldLink RX1 61 "DoorBench" "doors" "I", Cond.fieldLink RX1 9 "DoorBench" "kinds" "[I", Cond.methodLink RX1 170 yX1_leastNet, Cond.instanceMethod yX1_leastNet, Cond.selects RX1 yX1_leastNet yX1_leastNet, Cond.code yX1_leastNet cX1_leastNet 5 (some .int), Cond.fieldLink RX1 22 "DoorBench" "toldIn" "[I", Cond.fieldLink RX1 25 "DoorBench" "toldOut" "[I", Cond.methodLink RX1 72 yX1_place, Cond.static yX1_place, Cond.code yX1_place cX1_place 2 (some .int), Cond.methodLink RX1 159 yX1_leastPassed, Cond.instanceMethod yX1_leastPassed, Cond.selects RX1 yX1_leastPassed yX1_leastPassed, Cond.code yX1_leastPassed cX1_leastPassed 4 (some .int), Cond.fieldLink RX1 16 "DoorBench" "doubles" "[I", Cond.methodLink RX1 154 Lib.Math.max.name]
def wsX1_surely_r3 : List Cond := [Cond.static Lib.Math.max.name, Cond.initialized "java/lang/Math", Cond.code Lib.Math.max.name Lib.Math.max.code 2 (some .int), Cond.methodLink RX1 163 yX1_mostPassed, Cond.instanceMethod yX1_mostPassed, Cond.selects RX1 yX1_mostPassed yX1_mostPassed, Cond.code yX1_mostPassed cX1_mostPassed 4 (some .int), Cond.fieldLink RX1 19 "DoorBench" "caps" "[I", Cond.fieldLink RX1 13 "DoorBench" "misses" "[I", Cond.methodLink RX1 173 yX1_mostNet, Cond.instanceMethod yX1_mostNet, Cond.selects RX1 yX1_mostNet yX1_mostNet, Cond.code yX1_mostNet cX1_mostNet 5 (some .int), Cond.methodLink RX1 176 yX1_addDoor, Cond.instanceMethod yX1_addDoor, Cond.selects RX1 yX1_addDoor yX1_addDoor, Cond.code yX1_addDoor cX1_addDoor 4 none, Cond.methodLink RX1 179 yX0_widen, Cond.instanceMethod yX0_widen, Cond.selects RX0 yX0_widen yX0_widen, Cond.code yX0_widen cX0_widen 6 none, Cond.methodLink RX1 182 yX0_putSum, Cond.instanceMethod yX0_putSum, Cond.selects RX0 yX0_putSum yX0_putSum]
def wsX1_surely_r4 : List Cond := [Cond.code yX0_putSum cX0_putSum 5 none, Cond.methodLink RX0 30 yX0_low, Cond.instanceMethod yX0_low, Cond.selects RX0 yX0_low yX0_low, Cond.code yX0_low cX0_low 3 (some .int), Cond.methodLink RX0 33 yX0_high, Cond.instanceMethod yX0_high, Cond.selects RX0 yX0_high yX0_high, Cond.code yX0_high cX0_high 3 (some .int), Cond.methodLink RX0 36 yX0_put, Cond.methodLink RX1 185 yX1_keepAllowed, Cond.instanceMethod yX1_keepAllowed, Cond.selects RX1 yX1_keepAllowed yX1_keepAllowed, Cond.code yX1_keepAllowed cX1_keepAllowed 3 (some .boolean), Cond.constant RX1 188 (1000000), Cond.fieldLink RX1 86 "DoorBench" "checks" "I", Cond.fieldLink RX1 34 "DoorBench" "checkTime" "[I", Cond.fieldLink RX1 37 "DoorBench" "checkWhat" "[I", Cond.fieldLink RX1 40 "DoorBench" "checkLow" "[I", Cond.fieldLink RX1 43 "DoorBench" "checkHigh" "[I", Cond.methodLink RX1 189 yX0_cut, Cond.instanceMethod yX0_cut, Cond.selects RX0 yX0_cut yX0_cut, Cond.code yX0_cut cX0_cut 6 none]
def wsX1_surely_r5 : List Cond := [Cond.methodLink RX0 22 Lib.Math.max.name, Cond.methodLink RX0 27 Lib.Math.min.name, Cond.static Lib.Math.min.name, Cond.code Lib.Math.min.name Lib.Math.min.code 2 (some .int), Cond.methodLink RX1 192 yX0_tighten, Cond.instanceMethod yX0_tighten, Cond.selects RX0 yX0_tighten yX0_tighten, Cond.code yX0_tighten cX0_tighten 8 (some .boolean), Cond.methodLink RX0 40 yX0_cut, Cond.methodLink RX0 43 yX0_isSpan, Cond.instanceMethod yX0_isSpan, Cond.selects RX0 yX0_isSpan yX0_isSpan, Cond.code yX0_isSpan cX0_isSpan 3 (some .boolean), Cond.methodLink RX1 105 yX1_lookBackTo, Cond.instanceMethod yX1_lookBackTo, Cond.selects RX1 yX1_lookBackTo yX1_lookBackTo, Cond.code yX1_lookBackTo cX1_lookBackTo 3 none, Cond.methodLink RX1 195 yX0_cutByDifference, Cond.instanceMethod yX0_cutByDifference, Cond.selects RX0 yX0_cutByDifference yX0_cutByDifference, Cond.code yX0_cutByDifference cX0_cutByDifference 5 none, Cond.methodLink RX1 108 yX0_high, Cond.methodLink RX1 111 yX0_low]
def wsX1_surely : List Cond := .code yX1_surely cX1_surely 2 (some .int) :: ((wsX1_surely_r1 ++ (wsX1_surely_r2 ++ (wsX1_surely_r3 ++ (wsX1_surely_r4 ++ wsX1_surely_r5)))) ++ wsX10 ++ wsX00)
def wsX1_mostRest : List Cond := .code yX1_mostRest cX1_mostRest 3 (some .int) :: ([.fieldLink RX1 49 "DoorBench" "spans" "LDoorBench$Spans;", .methodLink RX1 108 yX0_high, .instanceMethod yX0_high, .selects RX0 yX0_high yX0_high, .initialized RX0, .code yX0_high cX0_high 3 (some .int), .fieldLink RX0 15 "DoorBench$Spans" "highs" "[I", .methodLink RX0 18 yX0_at, .static yX0_at, .code yX0_at cX0_at 2 (some .int), .methodLink RX1 111 yX0_low, .instanceMethod yX0_low, .selects RX0 yX0_low yX0_low, .code yX0_low cX0_low 3 (some .int), .fieldLink RX0 9 "DoorBench$Spans" "lows" "[I"] ++ wsX10 ++ wsX00)
def wsX1_leastRest : List Cond := .code yX1_leastRest cX1_leastRest 3 (some .int) :: ([.fieldLink RX1 49 "DoorBench" "spans" "LDoorBench$Spans;", .methodLink RX1 111 yX0_low, .instanceMethod yX0_low, .selects RX0 yX0_low yX0_low, .initialized RX0, .code yX0_low cX0_low 3 (some .int), .fieldLink RX0 9 "DoorBench$Spans" "lows" "[I", .methodLink RX0 18 yX0_at, .static yX0_at, .code yX0_at cX0_at 2 (some .int), .methodLink RX1 108 yX0_high, .instanceMethod yX0_high, .selects RX0 yX0_high yX0_high, .code yX0_high cX0_high 3 (some .int), .fieldLink RX0 15 "DoorBench$Spans" "highs" "[I"] ++ wsX10 ++ wsX00)
def wsX1_mostThrough_r1 : List Cond := [Cond.fieldLink RX1 9 "DoorBench" "kinds" "[I", Cond.methodLink RX1 205 Lib.Math.min.name, Cond.static Lib.Math.min.name, Cond.initialized "java/lang/Math", Cond.code Lib.Math.min.name Lib.Math.min.code 2 (some .int), Cond.methodLink RX1 173 yX1_mostNet, Cond.instanceMethod yX1_mostNet, Cond.selects RX1 yX1_mostNet yX1_mostNet, Cond.initialized RX1, Cond.code yX1_mostNet cX1_mostNet 5 (some .int), Cond.fieldLink RX1 22 "DoorBench" "toldIn" "[I", Cond.fieldLink RX1 25 "DoorBench" "toldOut" "[I", Cond.methodLink RX1 72 yX1_place, Cond.static yX1_place, Cond.code yX1_place cX1_place 2 (some .int), Cond.methodLink RX1 163 yX1_mostPassed, Cond.instanceMethod yX1_mostPassed, Cond.selects RX1 yX1_mostPassed yX1_mostPassed, Cond.code yX1_mostPassed cX1_mostPassed 4 (some .int), Cond.fieldLink RX1 19 "DoorBench" "caps" "[I", Cond.fieldLink RX1 13 "DoorBench" "misses" "[I", Cond.methodLink RX1 159 yX1_leastPassed, Cond.instanceMethod yX1_leastPassed, Cond.selects RX1 yX1_leastPassed yX1_leastPassed]
def wsX1_mostThrough_r2 : List Cond := [Cond.code yX1_leastPassed cX1_leastPassed 4 (some .int), Cond.fieldLink RX1 16 "DoorBench" "doubles" "[I", Cond.methodLink RX1 154 Lib.Math.max.name, Cond.static Lib.Math.max.name, Cond.code Lib.Math.max.name Lib.Math.max.code 2 (some .int), Cond.methodLink RX1 202 yX1_mostRest, Cond.instanceMethod yX1_mostRest, Cond.selects RX1 yX1_mostRest yX1_mostRest, Cond.code yX1_mostRest cX1_mostRest 3 (some .int), Cond.fieldLink RX1 49 "DoorBench" "spans" "LDoorBench$Spans;", Cond.methodLink RX1 108 yX0_high, Cond.instanceMethod yX0_high, Cond.selects RX0 yX0_high yX0_high, Cond.initialized RX0, Cond.code yX0_high cX0_high 3 (some .int), Cond.fieldLink RX0 15 "DoorBench$Spans" "highs" "[I", Cond.methodLink RX0 18 yX0_at, Cond.static yX0_at, Cond.code yX0_at cX0_at 2 (some .int), Cond.methodLink RX1 111 yX0_low, Cond.instanceMethod yX0_low, Cond.selects RX0 yX0_low yX0_low, Cond.code yX0_low cX0_low 3 (some .int), Cond.fieldLink RX0 9 "DoorBench$Spans" "lows" "[I"]
def wsX1_mostThrough_r3 : List Cond := [Cond.methodLink RX1 199 yX1_leastRest, Cond.instanceMethod yX1_leastRest, Cond.selects RX1 yX1_leastRest yX1_leastRest, Cond.code yX1_leastRest cX1_leastRest 3 (some .int)]
def wsX1_mostThrough : List Cond := .code yX1_mostThrough cX1_mostThrough 4 (some .int) :: ((wsX1_mostThrough_r1 ++ (wsX1_mostThrough_r2 ++ wsX1_mostThrough_r3)) ++ wsX10 ++ wsX00)
def wsX1_leastThrough_r1 : List Cond := [Cond.fieldLink RX1 9 "DoorBench" "kinds" "[I", Cond.methodLink RX1 154 Lib.Math.max.name, Cond.static Lib.Math.max.name, Cond.initialized "java/lang/Math", Cond.code Lib.Math.max.name Lib.Math.max.code 2 (some .int), Cond.methodLink RX1 170 yX1_leastNet, Cond.instanceMethod yX1_leastNet, Cond.selects RX1 yX1_leastNet yX1_leastNet, Cond.initialized RX1, Cond.code yX1_leastNet cX1_leastNet 5 (some .int), Cond.fieldLink RX1 22 "DoorBench" "toldIn" "[I", Cond.fieldLink RX1 25 "DoorBench" "toldOut" "[I", Cond.methodLink RX1 72 yX1_place, Cond.static yX1_place, Cond.code yX1_place cX1_place 2 (some .int), Cond.methodLink RX1 159 yX1_leastPassed, Cond.instanceMethod yX1_leastPassed, Cond.selects RX1 yX1_leastPassed yX1_leastPassed, Cond.code yX1_leastPassed cX1_leastPassed 4 (some .int), Cond.fieldLink RX1 16 "DoorBench" "doubles" "[I", Cond.methodLink RX1 163 yX1_mostPassed, Cond.instanceMethod yX1_mostPassed, Cond.selects RX1 yX1_mostPassed yX1_mostPassed, Cond.code yX1_mostPassed cX1_mostPassed 4 (some .int)]
def wsX1_leastThrough_r2 : List Cond := [Cond.fieldLink RX1 19 "DoorBench" "caps" "[I", Cond.fieldLink RX1 13 "DoorBench" "misses" "[I", Cond.methodLink RX1 199 yX1_leastRest, Cond.instanceMethod yX1_leastRest, Cond.selects RX1 yX1_leastRest yX1_leastRest, Cond.code yX1_leastRest cX1_leastRest 3 (some .int), Cond.fieldLink RX1 49 "DoorBench" "spans" "LDoorBench$Spans;", Cond.methodLink RX1 111 yX0_low, Cond.instanceMethod yX0_low, Cond.selects RX0 yX0_low yX0_low, Cond.initialized RX0, Cond.code yX0_low cX0_low 3 (some .int), Cond.fieldLink RX0 9 "DoorBench$Spans" "lows" "[I", Cond.methodLink RX0 18 yX0_at, Cond.static yX0_at, Cond.code yX0_at cX0_at 2 (some .int), Cond.methodLink RX1 108 yX0_high, Cond.instanceMethod yX0_high, Cond.selects RX0 yX0_high yX0_high, Cond.code yX0_high cX0_high 3 (some .int), Cond.fieldLink RX0 15 "DoorBench$Spans" "highs" "[I", Cond.methodLink RX1 202 yX1_mostRest, Cond.instanceMethod yX1_mostRest, Cond.selects RX1 yX1_mostRest yX1_mostRest]
def wsX1_leastThrough_r3 : List Cond := [Cond.code yX1_mostRest cX1_mostRest 3 (some .int)]
def wsX1_leastThrough : List Cond := .code yX1_leastThrough cX1_leastThrough 4 (some .int) :: ((wsX1_leastThrough_r1 ++ (wsX1_leastThrough_r2 ++ wsX1_leastThrough_r3)) ++ wsX10 ++ wsX00)
def wsX1_through_r1 : List Cond := [Cond.classLink RX1 93 "java/lang/IndexOutOfBoundsException", Cond.initialized "java/lang/IndexOutOfBoundsException", Cond.classLink RX1 100 "java/util/NoSuchElementException", Cond.initialized "java/util/NoSuchElementException", Cond.methodLink RX1 65 yX1_isDoor, Cond.instanceMethod yX1_isDoor, Cond.selects RX1 yX1_isDoor yX1_isDoor, Cond.initialized RX1, Cond.code yX1_isDoor cX1_isDoor 2 (some .boolean), Cond.fieldLink RX1 61 "DoorBench" "doors" "I", Cond.methodLink RX1 57 yX1_within, Cond.static yX1_within, Cond.code yX1_within cX1_within 3 (some .boolean), Cond.methodLink RX1 69 yX1_isTick, Cond.instanceMethod yX1_isTick, Cond.selects RX1 yX1_isTick yX1_isTick, Cond.code yX1_isTick cX1_isTick 2 (some .boolean), Cond.fieldLink RX1 141 "DoorBench" "ticks" "I", Cond.methodLink RX1 89 yX1_lookAhead, Cond.instanceMethod yX1_lookAhead, Cond.selects RX1 yX1_lookAhead yX1_lookAhead, Cond.code yX1_lookAhead cX1_lookAhead 3 (some .int), Cond.fieldLink RX1 49 "DoorBench" "spans" "LDoorBench$Spans;", Cond.fieldLink RX1 28 "DoorBench" "startLow" "[I"]
def wsX1_through_r2 : List Cond := [Cond.fieldLink RX1 31 "DoorBench" "startHigh" "[I", Cond.methodLink RX1 166 yX0_put, Cond.instanceMethod yX0_put, Cond.selects RX0 yX0_put yX0_put, Cond.initialized RX0, Cond.code yX0_put cX0_put 6 none, Cond.fieldLink RX0 9 "DoorBench$Spans" "lows" "[I", Cond.fieldLink RX0 15 "DoorBench$Spans" "highs" "[I", Cond.methodLink RX0 18 yX0_at, Cond.static yX0_at, Cond.code yX0_at cX0_at 2 (some .int), Cond.methodLink RX1 120 yX1_gatherChange, Cond.instanceMethod yX1_gatherChange, Cond.selects RX1 yX1_gatherChange yX1_gatherChange, Cond.code yX1_gatherChange cX1_gatherChange 5 none, Cond.fieldLink RX1 9 "DoorBench" "kinds" "[I", Cond.methodLink RX1 170 yX1_leastNet, Cond.instanceMethod yX1_leastNet, Cond.selects RX1 yX1_leastNet yX1_leastNet, Cond.code yX1_leastNet cX1_leastNet 5 (some .int), Cond.fieldLink RX1 22 "DoorBench" "toldIn" "[I", Cond.fieldLink RX1 25 "DoorBench" "toldOut" "[I", Cond.methodLink RX1 72 yX1_place, Cond.static yX1_place]
def wsX1_through_r3 : List Cond := [Cond.code yX1_place cX1_place 2 (some .int), Cond.methodLink RX1 159 yX1_leastPassed, Cond.instanceMethod yX1_leastPassed, Cond.selects RX1 yX1_leastPassed yX1_leastPassed, Cond.code yX1_leastPassed cX1_leastPassed 4 (some .int), Cond.fieldLink RX1 16 "DoorBench" "doubles" "[I", Cond.methodLink RX1 154 Lib.Math.max.name, Cond.static Lib.Math.max.name, Cond.initialized "java/lang/Math", Cond.code Lib.Math.max.name Lib.Math.max.code 2 (some .int), Cond.methodLink RX1 163 yX1_mostPassed, Cond.instanceMethod yX1_mostPassed, Cond.selects RX1 yX1_mostPassed yX1_mostPassed, Cond.code yX1_mostPassed cX1_mostPassed 4 (some .int), Cond.fieldLink RX1 19 "DoorBench" "caps" "[I", Cond.fieldLink RX1 13 "DoorBench" "misses" "[I", Cond.methodLink RX1 173 yX1_mostNet, Cond.instanceMethod yX1_mostNet, Cond.selects RX1 yX1_mostNet yX1_mostNet, Cond.code yX1_mostNet cX1_mostNet 5 (some .int), Cond.methodLink RX1 176 yX1_addDoor, Cond.instanceMethod yX1_addDoor, Cond.selects RX1 yX1_addDoor yX1_addDoor, Cond.code yX1_addDoor cX1_addDoor 4 none]
def wsX1_through_r4 : List Cond := [Cond.methodLink RX1 179 yX0_widen, Cond.instanceMethod yX0_widen, Cond.selects RX0 yX0_widen yX0_widen, Cond.code yX0_widen cX0_widen 6 none, Cond.methodLink RX1 182 yX0_putSum, Cond.instanceMethod yX0_putSum, Cond.selects RX0 yX0_putSum yX0_putSum, Cond.code yX0_putSum cX0_putSum 5 none, Cond.methodLink RX0 30 yX0_low, Cond.instanceMethod yX0_low, Cond.selects RX0 yX0_low yX0_low, Cond.code yX0_low cX0_low 3 (some .int), Cond.methodLink RX0 33 yX0_high, Cond.instanceMethod yX0_high, Cond.selects RX0 yX0_high yX0_high, Cond.code yX0_high cX0_high 3 (some .int), Cond.methodLink RX0 36 yX0_put, Cond.methodLink RX1 185 yX1_keepAllowed, Cond.instanceMethod yX1_keepAllowed, Cond.selects RX1 yX1_keepAllowed yX1_keepAllowed, Cond.code yX1_keepAllowed cX1_keepAllowed 3 (some .boolean), Cond.constant RX1 188 (1000000), Cond.fieldLink RX1 86 "DoorBench" "checks" "I", Cond.fieldLink RX1 34 "DoorBench" "checkTime" "[I"]
def wsX1_through_r5 : List Cond := [Cond.fieldLink RX1 37 "DoorBench" "checkWhat" "[I", Cond.fieldLink RX1 40 "DoorBench" "checkLow" "[I", Cond.fieldLink RX1 43 "DoorBench" "checkHigh" "[I", Cond.methodLink RX1 189 yX0_cut, Cond.instanceMethod yX0_cut, Cond.selects RX0 yX0_cut yX0_cut, Cond.code yX0_cut cX0_cut 6 none, Cond.methodLink RX0 22 Lib.Math.max.name, Cond.methodLink RX0 27 Lib.Math.min.name, Cond.static Lib.Math.min.name, Cond.code Lib.Math.min.name Lib.Math.min.code 2 (some .int), Cond.methodLink RX1 192 yX0_tighten, Cond.instanceMethod yX0_tighten, Cond.selects RX0 yX0_tighten yX0_tighten, Cond.code yX0_tighten cX0_tighten 8 (some .boolean), Cond.methodLink RX0 40 yX0_cut, Cond.methodLink RX0 43 yX0_isSpan, Cond.instanceMethod yX0_isSpan, Cond.selects RX0 yX0_isSpan yX0_isSpan, Cond.code yX0_isSpan cX0_isSpan 3 (some .boolean), Cond.methodLink RX1 105 yX1_lookBackTo, Cond.instanceMethod yX1_lookBackTo, Cond.selects RX1 yX1_lookBackTo yX1_lookBackTo, Cond.code yX1_lookBackTo cX1_lookBackTo 3 none]
def wsX1_through_r6 : List Cond := [Cond.methodLink RX1 195 yX0_cutByDifference, Cond.instanceMethod yX0_cutByDifference, Cond.selects RX0 yX0_cutByDifference yX0_cutByDifference, Cond.code yX0_cutByDifference cX0_cutByDifference 5 none, Cond.methodLink RX1 124 yX1_mostThrough, Cond.instanceMethod yX1_mostThrough, Cond.selects RX1 yX1_mostThrough yX1_mostThrough, Cond.code yX1_mostThrough cX1_mostThrough 4 (some .int), Cond.methodLink RX1 205 Lib.Math.min.name, Cond.methodLink RX1 202 yX1_mostRest, Cond.instanceMethod yX1_mostRest, Cond.selects RX1 yX1_mostRest yX1_mostRest, Cond.code yX1_mostRest cX1_mostRest 3 (some .int), Cond.methodLink RX1 108 yX0_high, Cond.methodLink RX1 111 yX0_low, Cond.methodLink RX1 199 yX1_leastRest, Cond.instanceMethod yX1_leastRest, Cond.selects RX1 yX1_leastRest yX1_leastRest, Cond.code yX1_leastRest cX1_leastRest 3 (some .int), Cond.methodLink RX1 127 yX1_leastThrough, Cond.instanceMethod yX1_leastThrough, Cond.selects RX1 yX1_leastThrough yX1_leastThrough, Cond.code yX1_leastThrough cX1_leastThrough 4 (some .int)]
def wsX1_through : List Cond := .code yX1_through cX1_through 4 (some .int) :: ((wsX1_through_r1 ++ (wsX1_through_r2 ++ (wsX1_through_r3 ++ (wsX1_through_r4 ++ (wsX1_through_r5 ++ wsX1_through_r6))))) ++ wsX10 ++ wsX00 ++ (vx_atS RX1 97 "java/lang/IndexOutOfBoundsException" ["java/lang/RuntimeException", "java/lang/Exception"]).filter goodWord ++ (vx_atS RX1 104 "java/util/NoSuchElementException" ["java/lang/RuntimeException", "java/lang/Exception"]).filter goodWord)
def wsX1_worse_r1 : List Cond := [Cond.methodLink RX1 89 yX1_lookAhead, Cond.instanceMethod yX1_lookAhead, Cond.selects RX1 yX1_lookAhead yX1_lookAhead, Cond.initialized RX1, Cond.code yX1_lookAhead cX1_lookAhead 3 (some .int), Cond.fieldLink RX1 49 "DoorBench" "spans" "LDoorBench$Spans;", Cond.fieldLink RX1 28 "DoorBench" "startLow" "[I", Cond.fieldLink RX1 31 "DoorBench" "startHigh" "[I", Cond.fieldLink RX1 141 "DoorBench" "ticks" "I", Cond.methodLink RX1 166 yX0_put, Cond.instanceMethod yX0_put, Cond.selects RX0 yX0_put yX0_put, Cond.initialized RX0, Cond.code yX0_put cX0_put 6 none, Cond.fieldLink RX0 9 "DoorBench$Spans" "lows" "[I", Cond.fieldLink RX0 15 "DoorBench$Spans" "highs" "[I", Cond.methodLink RX0 18 yX0_at, Cond.static yX0_at, Cond.code yX0_at cX0_at 2 (some .int), Cond.methodLink RX1 120 yX1_gatherChange, Cond.instanceMethod yX1_gatherChange, Cond.selects RX1 yX1_gatherChange yX1_gatherChange, Cond.code yX1_gatherChange cX1_gatherChange 5 none, Cond.fieldLink RX1 61 "DoorBench" "doors" "I"]
def wsX1_worse_r2 : List Cond := [Cond.fieldLink RX1 9 "DoorBench" "kinds" "[I", Cond.methodLink RX1 170 yX1_leastNet, Cond.instanceMethod yX1_leastNet, Cond.selects RX1 yX1_leastNet yX1_leastNet, Cond.code yX1_leastNet cX1_leastNet 5 (some .int), Cond.fieldLink RX1 22 "DoorBench" "toldIn" "[I", Cond.fieldLink RX1 25 "DoorBench" "toldOut" "[I", Cond.methodLink RX1 72 yX1_place, Cond.static yX1_place, Cond.code yX1_place cX1_place 2 (some .int), Cond.methodLink RX1 159 yX1_leastPassed, Cond.instanceMethod yX1_leastPassed, Cond.selects RX1 yX1_leastPassed yX1_leastPassed, Cond.code yX1_leastPassed cX1_leastPassed 4 (some .int), Cond.fieldLink RX1 16 "DoorBench" "doubles" "[I", Cond.methodLink RX1 154 Lib.Math.max.name, Cond.static Lib.Math.max.name, Cond.initialized "java/lang/Math", Cond.code Lib.Math.max.name Lib.Math.max.code 2 (some .int), Cond.methodLink RX1 163 yX1_mostPassed, Cond.instanceMethod yX1_mostPassed, Cond.selects RX1 yX1_mostPassed yX1_mostPassed, Cond.code yX1_mostPassed cX1_mostPassed 4 (some .int), Cond.fieldLink RX1 19 "DoorBench" "caps" "[I"]
def wsX1_worse_r3 : List Cond := [Cond.fieldLink RX1 13 "DoorBench" "misses" "[I", Cond.methodLink RX1 173 yX1_mostNet, Cond.instanceMethod yX1_mostNet, Cond.selects RX1 yX1_mostNet yX1_mostNet, Cond.code yX1_mostNet cX1_mostNet 5 (some .int), Cond.methodLink RX1 176 yX1_addDoor, Cond.instanceMethod yX1_addDoor, Cond.selects RX1 yX1_addDoor yX1_addDoor, Cond.code yX1_addDoor cX1_addDoor 4 none, Cond.methodLink RX1 179 yX0_widen, Cond.instanceMethod yX0_widen, Cond.selects RX0 yX0_widen yX0_widen, Cond.code yX0_widen cX0_widen 6 none, Cond.methodLink RX1 182 yX0_putSum, Cond.instanceMethod yX0_putSum, Cond.selects RX0 yX0_putSum yX0_putSum, Cond.code yX0_putSum cX0_putSum 5 none, Cond.methodLink RX0 30 yX0_low, Cond.instanceMethod yX0_low, Cond.selects RX0 yX0_low yX0_low, Cond.code yX0_low cX0_low 3 (some .int), Cond.methodLink RX0 33 yX0_high, Cond.instanceMethod yX0_high, Cond.selects RX0 yX0_high yX0_high]
def wsX1_worse_r4 : List Cond := [Cond.code yX0_high cX0_high 3 (some .int), Cond.methodLink RX0 36 yX0_put, Cond.methodLink RX1 185 yX1_keepAllowed, Cond.instanceMethod yX1_keepAllowed, Cond.selects RX1 yX1_keepAllowed yX1_keepAllowed, Cond.code yX1_keepAllowed cX1_keepAllowed 3 (some .boolean), Cond.constant RX1 188 (1000000), Cond.fieldLink RX1 86 "DoorBench" "checks" "I", Cond.fieldLink RX1 34 "DoorBench" "checkTime" "[I", Cond.fieldLink RX1 37 "DoorBench" "checkWhat" "[I", Cond.fieldLink RX1 40 "DoorBench" "checkLow" "[I", Cond.fieldLink RX1 43 "DoorBench" "checkHigh" "[I", Cond.methodLink RX1 189 yX0_cut, Cond.instanceMethod yX0_cut, Cond.selects RX0 yX0_cut yX0_cut, Cond.code yX0_cut cX0_cut 6 none, Cond.methodLink RX0 22 Lib.Math.max.name, Cond.methodLink RX0 27 Lib.Math.min.name, Cond.static Lib.Math.min.name, Cond.code Lib.Math.min.name Lib.Math.min.code 2 (some .int), Cond.methodLink RX1 192 yX0_tighten, Cond.instanceMethod yX0_tighten, Cond.selects RX0 yX0_tighten yX0_tighten, Cond.code yX0_tighten cX0_tighten 8 (some .boolean)]
def wsX1_worse_r5 : List Cond := [Cond.methodLink RX0 40 yX0_cut, Cond.methodLink RX0 43 yX0_isSpan, Cond.instanceMethod yX0_isSpan, Cond.selects RX0 yX0_isSpan yX0_isSpan, Cond.code yX0_isSpan cX0_isSpan 3 (some .boolean)]
def wsX1_worse : List Cond := .code yX1_worse cX1_worse 2 (some .int) :: ((wsX1_worse_r1 ++ (wsX1_worse_r2 ++ (wsX1_worse_r3 ++ (wsX1_worse_r4 ++ wsX1_worse_r5)))) ++ wsX10 ++ wsX00)
def wsX1_quarrel_r1 : List Cond := [Cond.methodLink RX1 89 yX1_lookAhead, Cond.instanceMethod yX1_lookAhead, Cond.selects RX1 yX1_lookAhead yX1_lookAhead, Cond.initialized RX1, Cond.code yX1_lookAhead cX1_lookAhead 3 (some .int), Cond.fieldLink RX1 49 "DoorBench" "spans" "LDoorBench$Spans;", Cond.fieldLink RX1 28 "DoorBench" "startLow" "[I", Cond.fieldLink RX1 31 "DoorBench" "startHigh" "[I", Cond.fieldLink RX1 141 "DoorBench" "ticks" "I", Cond.methodLink RX1 166 yX0_put, Cond.instanceMethod yX0_put, Cond.selects RX0 yX0_put yX0_put, Cond.initialized RX0, Cond.code yX0_put cX0_put 6 none, Cond.fieldLink RX0 9 "DoorBench$Spans" "lows" "[I", Cond.fieldLink RX0 15 "DoorBench$Spans" "highs" "[I", Cond.methodLink RX0 18 yX0_at, Cond.static yX0_at, Cond.code yX0_at cX0_at 2 (some .int), Cond.methodLink RX1 120 yX1_gatherChange, Cond.instanceMethod yX1_gatherChange, Cond.selects RX1 yX1_gatherChange yX1_gatherChange, Cond.code yX1_gatherChange cX1_gatherChange 5 none, Cond.fieldLink RX1 61 "DoorBench" "doors" "I"]
def wsX1_quarrel_r2 : List Cond := [Cond.fieldLink RX1 9 "DoorBench" "kinds" "[I", Cond.methodLink RX1 170 yX1_leastNet, Cond.instanceMethod yX1_leastNet, Cond.selects RX1 yX1_leastNet yX1_leastNet, Cond.code yX1_leastNet cX1_leastNet 5 (some .int), Cond.fieldLink RX1 22 "DoorBench" "toldIn" "[I", Cond.fieldLink RX1 25 "DoorBench" "toldOut" "[I", Cond.methodLink RX1 72 yX1_place, Cond.static yX1_place, Cond.code yX1_place cX1_place 2 (some .int), Cond.methodLink RX1 159 yX1_leastPassed, Cond.instanceMethod yX1_leastPassed, Cond.selects RX1 yX1_leastPassed yX1_leastPassed, Cond.code yX1_leastPassed cX1_leastPassed 4 (some .int), Cond.fieldLink RX1 16 "DoorBench" "doubles" "[I", Cond.methodLink RX1 154 Lib.Math.max.name, Cond.static Lib.Math.max.name, Cond.initialized "java/lang/Math", Cond.code Lib.Math.max.name Lib.Math.max.code 2 (some .int), Cond.methodLink RX1 163 yX1_mostPassed, Cond.instanceMethod yX1_mostPassed, Cond.selects RX1 yX1_mostPassed yX1_mostPassed, Cond.code yX1_mostPassed cX1_mostPassed 4 (some .int), Cond.fieldLink RX1 19 "DoorBench" "caps" "[I"]
def wsX1_quarrel_r3 : List Cond := [Cond.fieldLink RX1 13 "DoorBench" "misses" "[I", Cond.methodLink RX1 173 yX1_mostNet, Cond.instanceMethod yX1_mostNet, Cond.selects RX1 yX1_mostNet yX1_mostNet, Cond.code yX1_mostNet cX1_mostNet 5 (some .int), Cond.methodLink RX1 176 yX1_addDoor, Cond.instanceMethod yX1_addDoor, Cond.selects RX1 yX1_addDoor yX1_addDoor, Cond.code yX1_addDoor cX1_addDoor 4 none, Cond.methodLink RX1 179 yX0_widen, Cond.instanceMethod yX0_widen, Cond.selects RX0 yX0_widen yX0_widen, Cond.code yX0_widen cX0_widen 6 none, Cond.methodLink RX1 182 yX0_putSum, Cond.instanceMethod yX0_putSum, Cond.selects RX0 yX0_putSum yX0_putSum, Cond.code yX0_putSum cX0_putSum 5 none, Cond.methodLink RX0 30 yX0_low, Cond.instanceMethod yX0_low, Cond.selects RX0 yX0_low yX0_low, Cond.code yX0_low cX0_low 3 (some .int), Cond.methodLink RX0 33 yX0_high, Cond.instanceMethod yX0_high, Cond.selects RX0 yX0_high yX0_high]
def wsX1_quarrel_r4 : List Cond := [Cond.code yX0_high cX0_high 3 (some .int), Cond.methodLink RX0 36 yX0_put, Cond.methodLink RX1 185 yX1_keepAllowed, Cond.instanceMethod yX1_keepAllowed, Cond.selects RX1 yX1_keepAllowed yX1_keepAllowed, Cond.code yX1_keepAllowed cX1_keepAllowed 3 (some .boolean), Cond.constant RX1 188 (1000000), Cond.fieldLink RX1 86 "DoorBench" "checks" "I", Cond.fieldLink RX1 34 "DoorBench" "checkTime" "[I", Cond.fieldLink RX1 37 "DoorBench" "checkWhat" "[I", Cond.fieldLink RX1 40 "DoorBench" "checkLow" "[I", Cond.fieldLink RX1 43 "DoorBench" "checkHigh" "[I", Cond.methodLink RX1 189 yX0_cut, Cond.instanceMethod yX0_cut, Cond.selects RX0 yX0_cut yX0_cut, Cond.code yX0_cut cX0_cut 6 none, Cond.methodLink RX0 22 Lib.Math.max.name, Cond.methodLink RX0 27 Lib.Math.min.name, Cond.static Lib.Math.min.name, Cond.code Lib.Math.min.name Lib.Math.min.code 2 (some .int), Cond.methodLink RX1 192 yX0_tighten, Cond.instanceMethod yX0_tighten, Cond.selects RX0 yX0_tighten yX0_tighten, Cond.code yX0_tighten cX0_tighten 8 (some .boolean)]
def wsX1_quarrel_r5 : List Cond := [Cond.methodLink RX0 40 yX0_cut, Cond.methodLink RX0 43 yX0_isSpan, Cond.instanceMethod yX0_isSpan, Cond.selects RX0 yX0_isSpan yX0_isSpan, Cond.code yX0_isSpan cX0_isSpan 3 (some .boolean)]
def wsX1_quarrel : List Cond := .code yX1_quarrel cX1_quarrel 1 (some .int) :: ((wsX1_quarrel_r1 ++ (wsX1_quarrel_r2 ++ (wsX1_quarrel_r3 ++ (wsX1_quarrel_r4 ++ wsX1_quarrel_r5)))) ++ wsX10 ++ wsX00)
def wsX1_toldRows : List Cond := .code yX1_toldRows cX1_toldRows 4 (some .int) :: ([.fieldLink RX1 141 "DoorBench" "ticks" "I", .fieldLink RX1 22 "DoorBench" "toldIn" "[I", .methodLink RX1 72 yX1_place, .static yX1_place, .initialized RX1, .code yX1_place cX1_place 2 (some .int)] ++ wsX10)
def wsX1_toldSum : List Cond := .code yX1_toldSum cX1_toldSum 6 (some .int) :: ([.fieldLink RX1 141 "DoorBench" "ticks" "I", .methodLink RX1 72 yX1_place, .static yX1_place, .initialized RX1, .code yX1_place cX1_place 2 (some .int)] ++ wsX10)
def wsX1_look_r1 : List Cond := [Cond.classLink RX1 93 "java/lang/IndexOutOfBoundsException", Cond.initialized "java/lang/IndexOutOfBoundsException", Cond.classLink RX1 100 "java/util/NoSuchElementException", Cond.initialized "java/util/NoSuchElementException", Cond.fieldLink RX1 9 "DoorBench" "kinds" "[I", Cond.fieldLink RX1 13 "DoorBench" "misses" "[I", Cond.fieldLink RX1 16 "DoorBench" "doubles" "[I", Cond.fieldLink RX1 19 "DoorBench" "caps" "[I", Cond.fieldLink RX1 22 "DoorBench" "toldIn" "[I", Cond.fieldLink RX1 25 "DoorBench" "toldOut" "[I", Cond.methodLink RX1 65 yX1_isDoor, Cond.instanceMethod yX1_isDoor, Cond.selects RX1 yX1_isDoor yX1_isDoor, Cond.initialized RX1, Cond.code yX1_isDoor cX1_isDoor 2 (some .boolean), Cond.fieldLink RX1 61 "DoorBench" "doors" "I", Cond.methodLink RX1 57 yX1_within, Cond.static yX1_within, Cond.code yX1_within cX1_within 3 (some .boolean), Cond.methodLink RX1 132 yX1_toldRows, Cond.instanceMethod yX1_toldRows, Cond.selects RX1 yX1_toldRows yX1_toldRows, Cond.code yX1_toldRows cX1_toldRows 4 (some .int), Cond.fieldLink RX1 141 "DoorBench" "ticks" "I"]
def wsX1_look_r2 : List Cond := [Cond.methodLink RX1 72 yX1_place, Cond.static yX1_place, Cond.code yX1_place cX1_place 2 (some .int), Cond.methodLink RX1 135 yX1_toldSum, Cond.instanceMethod yX1_toldSum, Cond.selects RX1 yX1_toldSum yX1_toldSum, Cond.code yX1_toldSum cX1_toldSum 6 (some .int)]
def wsX1_look : List Cond := .code yX1_look cX1_look 3 (some .int) :: ((wsX1_look_r1 ++ wsX1_look_r2) ++ wsX10 ++ (vx_atS RX1 97 "java/lang/IndexOutOfBoundsException" ["java/lang/RuntimeException", "java/lang/Exception"]).filter goodWord ++ (vx_atS RX1 104 "java/util/NoSuchElementException" ["java/lang/RuntimeException", "java/lang/Exception"]).filter goodWord)
def wsX1_allToldRows : List Cond := .code yX1_allToldRows cX1_allToldRows 3 (some .int) :: ([.fieldLink RX1 61 "DoorBench" "doors" "I", .methodLink RX1 132 yX1_toldRows, .instanceMethod yX1_toldRows, .selects RX1 yX1_toldRows yX1_toldRows, .initialized RX1, .code yX1_toldRows cX1_toldRows 4 (some .int), .fieldLink RX1 141 "DoorBench" "ticks" "I", .fieldLink RX1 22 "DoorBench" "toldIn" "[I", .methodLink RX1 72 yX1_place, .static yX1_place, .code yX1_place cX1_place 2 (some .int)] ++ wsX10)
def wsX1_count : List Cond := .code yX1_count cX1_count 2 (some .int) :: ([.fieldLink RX1 141 "DoorBench" "ticks" "I", .fieldLink RX1 61 "DoorBench" "doors" "I", .fieldLink RX1 86 "DoorBench" "checks" "I", .methodLink RX1 144 yX1_allToldRows, .instanceMethod yX1_allToldRows, .selects RX1 yX1_allToldRows yX1_allToldRows, .initialized RX1, .code yX1_allToldRows cX1_allToldRows 3 (some .int), .methodLink RX1 132 yX1_toldRows, .instanceMethod yX1_toldRows, .selects RX1 yX1_toldRows yX1_toldRows, .code yX1_toldRows cX1_toldRows 4 (some .int), .fieldLink RX1 22 "DoorBench" "toldIn" "[I", .methodLink RX1 72 yX1_place, .static yX1_place, .code yX1_place cX1_place 2 (some .int)] ++ wsX10)
def wsX2_clear : List Cond := .code yX2_clear cX2_clear 3 none :: ([.fieldLink RX2 7 "DoorBenchModel" "ticks" "I", .fieldLink RX2 69 "DoorBenchModel" "doors" "I", .fieldLink RX2 72 "DoorBenchModel" "checks" "I", .fieldLink RX2 26 "DoorBenchModel" "in" "[I", .fieldLink RX2 29 "DoorBenchModel" "out" "[I", .fieldLink RX2 32 "DoorBenchModel" "low" "[I", .fieldLink RX2 35 "DoorBenchModel" "high" "[I"] ++ wsX20)
def wsX2_init_r1 : List Cond := [Cond.methodLink RX2 1 objectInit, Cond.instanceMethod objectInit, Cond.code objectInit ⟨#[0xb1]⟩ 1 none, Cond.fieldLink RX2 7 "DoorBenchModel" "ticks" "I", Cond.arrayClass .int, Cond.fieldLink RX2 13 "DoorBenchModel" "kind" "[I", Cond.fieldLink RX2 17 "DoorBenchModel" "miss" "[I", Cond.fieldLink RX2 20 "DoorBenchModel" "twice" "[I", Cond.fieldLink RX2 23 "DoorBenchModel" "cap" "[I", Cond.fieldLink RX2 26 "DoorBenchModel" "in" "[I", Cond.fieldLink RX2 29 "DoorBenchModel" "out" "[I", Cond.fieldLink RX2 32 "DoorBenchModel" "low" "[I", Cond.fieldLink RX2 35 "DoorBenchModel" "high" "[I", Cond.fieldLink RX2 38 "DoorBenchModel" "cTime" "[I", Cond.fieldLink RX2 41 "DoorBenchModel" "cWhat" "[I", Cond.fieldLink RX2 44 "DoorBenchModel" "cLow" "[I", Cond.fieldLink RX2 47 "DoorBenchModel" "cHigh" "[I", Cond.fieldLink RX2 50 "DoorBenchModel" "ahead" "[I", Cond.fieldLink RX2 53 "DoorBenchModel" "back" "[I", Cond.fieldLink RX2 56 "DoorBenchModel" "both" "[I", Cond.fieldLink RX2 59 "DoorBenchModel" "move" "[I", Cond.methodLink RX2 62 yX2_clear, Cond.instanceMethod yX2_clear, Cond.selects RX2 yX2_clear yX2_clear]
def wsX2_init_r2 : List Cond := [Cond.initialized RX2, Cond.code yX2_clear cX2_clear 3 none, Cond.fieldLink RX2 69 "DoorBenchModel" "doors" "I", Cond.fieldLink RX2 72 "DoorBenchModel" "checks" "I"]
def wsX2_init : List Cond := .code yX2_init cX2_init 1 none :: ((wsX2_init_r1 ++ wsX2_init_r2) ++ wsX20)
def wsX2_thrown : List Cond := .code yX2_thrown cX2_thrown 1 (some .int) :: ([.fieldLink RX2 66 "DoorBenchModel" "thrown" "I"] ++ wsX20)
def wsX2_day : List Cond := .code yX2_day cX2_day 2 (some .boolean) :: ([.fieldLink RX2 66 "DoorBenchModel" "thrown" "I", .methodLink RX2 62 yX2_clear, .instanceMethod yX2_clear, .selects RX2 yX2_clear yX2_clear, .initialized RX2, .code yX2_clear cX2_clear 3 none, .fieldLink RX2 7 "DoorBenchModel" "ticks" "I", .fieldLink RX2 69 "DoorBenchModel" "doors" "I", .fieldLink RX2 72 "DoorBenchModel" "checks" "I", .fieldLink RX2 26 "DoorBenchModel" "in" "[I", .fieldLink RX2 29 "DoorBenchModel" "out" "[I", .fieldLink RX2 32 "DoorBenchModel" "low" "[I", .fieldLink RX2 35 "DoorBenchModel" "high" "[I"] ++ wsX20)
def wsX2_door : List Cond := .code yX2_door cX2_door 5 (some .int) :: ([.fieldLink RX2 66 "DoorBenchModel" "thrown" "I", .fieldLink RX2 69 "DoorBenchModel" "doors" "I", .fieldLink RX2 13 "DoorBenchModel" "kind" "[I", .fieldLink RX2 17 "DoorBenchModel" "miss" "[I", .fieldLink RX2 20 "DoorBenchModel" "twice" "[I", .fieldLink RX2 23 "DoorBenchModel" "cap" "[I"] ++ wsX20)
def wsX2_isRow : List Cond := .code yX2_isRow cX2_isRow 3 (some .boolean) :: ([.fieldLink RX2 69 "DoorBenchModel" "doors" "I", .fieldLink RX2 7 "DoorBenchModel" "ticks" "I"] ++ wsX20)
def wsX2_row : List Cond := .code yX2_row cX2_row 5 (some .boolean) :: ([.fieldLink RX2 66 "DoorBenchModel" "thrown" "I", .fieldLink RX2 26 "DoorBenchModel" "in" "[I", .fieldLink RX2 29 "DoorBenchModel" "out" "[I", .methodLink RX2 75 yX2_isRow, .instanceMethod yX2_isRow, .selects RX2 yX2_isRow yX2_isRow, .initialized RX2, .code yX2_isRow cX2_isRow 3 (some .boolean), .fieldLink RX2 69 "DoorBenchModel" "doors" "I", .fieldLink RX2 7 "DoorBenchModel" "ticks" "I"] ++ wsX20)
def wsX2_lack : List Cond := .code yX2_lack cX2_lack 5 (some .boolean) :: ([.fieldLink RX2 66 "DoorBenchModel" "thrown" "I", .fieldLink RX2 26 "DoorBenchModel" "in" "[I", .fieldLink RX2 29 "DoorBenchModel" "out" "[I", .methodLink RX2 75 yX2_isRow, .instanceMethod yX2_isRow, .selects RX2 yX2_isRow yX2_isRow, .initialized RX2, .code yX2_isRow cX2_isRow 3 (some .boolean), .fieldLink RX2 69 "DoorBenchModel" "doors" "I", .fieldLink RX2 7 "DoorBenchModel" "ticks" "I"] ++ wsX20)
def wsX2_start : List Cond := .code yX2_start cX2_start 4 (some .boolean) :: ([.fieldLink RX2 66 "DoorBenchModel" "thrown" "I", .fieldLink RX2 32 "DoorBenchModel" "low" "[I", .fieldLink RX2 35 "DoorBenchModel" "high" "[I"] ++ wsX20)
def wsX2_check : List Cond := .code yX2_check cX2_check 5 (some .int) :: ([.fieldLink RX2 66 "DoorBenchModel" "thrown" "I", .fieldLink RX2 72 "DoorBenchModel" "checks" "I", .fieldLink RX2 7 "DoorBenchModel" "ticks" "I", .fieldLink RX2 38 "DoorBenchModel" "cTime" "[I", .fieldLink RX2 41 "DoorBenchModel" "cWhat" "[I", .fieldLink RX2 44 "DoorBenchModel" "cLow" "[I", .fieldLink RX2 47 "DoorBenchModel" "cHigh" "[I"] ++ wsX20)
def wsX2_uncheck : List Cond := .code yX2_uncheck cX2_uncheck 1 (some .int) :: ([.fieldLink RX2 66 "DoorBenchModel" "thrown" "I", .fieldLink RX2 72 "DoorBenchModel" "checks" "I"] ++ wsX20)
def wsX2_greater : List Cond := .code yX2_greater cX2_greater 2 (some .int) :: ([])
def wsX2_lesser : List Cond := .code yX2_lesser cX2_lesser 2 (some .int) :: ([])
def wsX2_least : List Cond := .code yX2_least cX2_least 3 (some .int) :: ([.fieldLink RX2 20 "DoorBenchModel" "twice" "[I", .fieldLink RX2 79 "DoorBenchModel" "more" "I", .methodLink RX2 82 yX2_greater, .static yX2_greater, .initialized RX2, .code yX2_greater cX2_greater 2 (some .int)] ++ wsX20)
def wsX2_most : List Cond := .code yX2_most cX2_most 3 (some .int) :: ([.fieldLink RX2 23 "DoorBenchModel" "cap" "[I", .fieldLink RX2 17 "DoorBenchModel" "miss" "[I", .fieldLink RX2 79 "DoorBenchModel" "more" "I"] ++ wsX20)
def wsX2_netLow : List Cond := .code yX2_netLow cX2_netLow 3 (some .int) :: ([.fieldLink RX2 26 "DoorBenchModel" "in" "[I", .fieldLink RX2 29 "DoorBenchModel" "out" "[I", .methodLink RX2 86 yX2_least, .instanceMethod yX2_least, .selects RX2 yX2_least yX2_least, .initialized RX2, .code yX2_least cX2_least 3 (some .int), .fieldLink RX2 20 "DoorBenchModel" "twice" "[I", .fieldLink RX2 79 "DoorBenchModel" "more" "I", .methodLink RX2 82 yX2_greater, .static yX2_greater, .code yX2_greater cX2_greater 2 (some .int), .methodLink RX2 89 yX2_most, .instanceMethod yX2_most, .selects RX2 yX2_most yX2_most, .code yX2_most cX2_most 3 (some .int), .fieldLink RX2 23 "DoorBenchModel" "cap" "[I", .fieldLink RX2 17 "DoorBenchModel" "miss" "[I"] ++ wsX20)
def wsX2_netHigh : List Cond := .code yX2_netHigh cX2_netHigh 3 (some .int) :: ([.fieldLink RX2 26 "DoorBenchModel" "in" "[I", .fieldLink RX2 29 "DoorBenchModel" "out" "[I", .methodLink RX2 89 yX2_most, .instanceMethod yX2_most, .selects RX2 yX2_most yX2_most, .initialized RX2, .code yX2_most cX2_most 3 (some .int), .fieldLink RX2 23 "DoorBenchModel" "cap" "[I", .fieldLink RX2 17 "DoorBenchModel" "miss" "[I", .fieldLink RX2 79 "DoorBenchModel" "more" "I", .methodLink RX2 86 yX2_least, .instanceMethod yX2_least, .selects RX2 yX2_least yX2_least, .code yX2_least cX2_least 3 (some .int), .fieldLink RX2 20 "DoorBenchModel" "twice" "[I", .methodLink RX2 82 yX2_greater, .static yX2_greater, .code yX2_greater cX2_greater 2 (some .int)] ++ wsX20)
def wsX2_moves_r1 : List Cond := [Cond.fieldLink RX2 59 "DoorBenchModel" "move" "[I", Cond.fieldLink RX2 69 "DoorBenchModel" "doors" "I", Cond.fieldLink RX2 13 "DoorBenchModel" "kind" "[I", Cond.methodLink RX2 92 yX2_netLow, Cond.instanceMethod yX2_netLow, Cond.selects RX2 yX2_netLow yX2_netLow, Cond.initialized RX2, Cond.code yX2_netLow cX2_netLow 3 (some .int), Cond.fieldLink RX2 26 "DoorBenchModel" "in" "[I", Cond.fieldLink RX2 29 "DoorBenchModel" "out" "[I", Cond.methodLink RX2 86 yX2_least, Cond.instanceMethod yX2_least, Cond.selects RX2 yX2_least yX2_least, Cond.code yX2_least cX2_least 3 (some .int), Cond.fieldLink RX2 20 "DoorBenchModel" "twice" "[I", Cond.fieldLink RX2 79 "DoorBenchModel" "more" "I", Cond.methodLink RX2 82 yX2_greater, Cond.static yX2_greater, Cond.code yX2_greater cX2_greater 2 (some .int), Cond.methodLink RX2 89 yX2_most, Cond.instanceMethod yX2_most, Cond.selects RX2 yX2_most yX2_most, Cond.code yX2_most cX2_most 3 (some .int), Cond.fieldLink RX2 23 "DoorBenchModel" "cap" "[I"]
def wsX2_moves_r2 : List Cond := [Cond.fieldLink RX2 17 "DoorBenchModel" "miss" "[I", Cond.methodLink RX2 95 yX2_netHigh, Cond.instanceMethod yX2_netHigh, Cond.selects RX2 yX2_netHigh yX2_netHigh, Cond.code yX2_netHigh cX2_netHigh 3 (some .int)]
def wsX2_moves : List Cond := .code yX2_moves cX2_moves 4 none :: ((wsX2_moves_r1 ++ wsX2_moves_r2) ++ wsX20)
def wsX2_close : List Cond := .code yX2_close cX2_close 4 (some .boolean) :: ([.methodLink RX2 82 yX2_greater, .static yX2_greater, .initialized RX2, .code yX2_greater cX2_greater 2 (some .int), .methodLink RX2 98 yX2_lesser, .static yX2_lesser, .code yX2_lesser cX2_lesser 2 (some .int)])
def wsX2_holds : List Cond := .code yX2_holds cX2_holds 5 (some .boolean) :: ([.fieldLink RX2 72 "DoorBenchModel" "checks" "I", .fieldLink RX2 38 "DoorBenchModel" "cTime" "[I", .fieldLink RX2 41 "DoorBenchModel" "cWhat" "[I", .fieldLink RX2 44 "DoorBenchModel" "cLow" "[I", .fieldLink RX2 47 "DoorBenchModel" "cHigh" "[I", .methodLink RX2 82 yX2_greater, .static yX2_greater, .initialized RX2, .code yX2_greater cX2_greater 2 (some .int), .methodLink RX2 98 yX2_lesser, .static yX2_lesser, .code yX2_lesser cX2_lesser 2 (some .int), .methodLink RX2 101 yX2_close, .instanceMethod yX2_close, .selects RX2 yX2_close yX2_close, .code yX2_close cX2_close 4 (some .boolean)] ++ wsX20)
def wsX2_forward_r1 : List Cond := [Cond.fieldLink RX2 50 "DoorBenchModel" "ahead" "[I", Cond.fieldLink RX2 32 "DoorBenchModel" "low" "[I", Cond.fieldLink RX2 35 "DoorBenchModel" "high" "[I", Cond.fieldLink RX2 7 "DoorBenchModel" "ticks" "I", Cond.fieldLink RX2 59 "DoorBenchModel" "move" "[I", Cond.methodLink RX2 105 yX2_holds, Cond.instanceMethod yX2_holds, Cond.selects RX2 yX2_holds yX2_holds, Cond.initialized RX2, Cond.code yX2_holds cX2_holds 5 (some .boolean), Cond.fieldLink RX2 72 "DoorBenchModel" "checks" "I", Cond.fieldLink RX2 38 "DoorBenchModel" "cTime" "[I", Cond.fieldLink RX2 41 "DoorBenchModel" "cWhat" "[I", Cond.fieldLink RX2 44 "DoorBenchModel" "cLow" "[I", Cond.fieldLink RX2 47 "DoorBenchModel" "cHigh" "[I", Cond.methodLink RX2 82 yX2_greater, Cond.static yX2_greater, Cond.code yX2_greater cX2_greater 2 (some .int), Cond.methodLink RX2 98 yX2_lesser, Cond.static yX2_lesser, Cond.code yX2_lesser cX2_lesser 2 (some .int), Cond.methodLink RX2 101 yX2_close, Cond.instanceMethod yX2_close, Cond.selects RX2 yX2_close yX2_close]
def wsX2_forward_r2 : List Cond := [Cond.code yX2_close cX2_close 4 (some .boolean), Cond.methodLink RX2 108 yX2_moves, Cond.instanceMethod yX2_moves, Cond.selects RX2 yX2_moves yX2_moves, Cond.code yX2_moves cX2_moves 4 none, Cond.fieldLink RX2 69 "DoorBenchModel" "doors" "I", Cond.fieldLink RX2 13 "DoorBenchModel" "kind" "[I", Cond.methodLink RX2 92 yX2_netLow, Cond.instanceMethod yX2_netLow, Cond.selects RX2 yX2_netLow yX2_netLow, Cond.code yX2_netLow cX2_netLow 3 (some .int), Cond.fieldLink RX2 26 "DoorBenchModel" "in" "[I", Cond.fieldLink RX2 29 "DoorBenchModel" "out" "[I", Cond.methodLink RX2 86 yX2_least, Cond.instanceMethod yX2_least, Cond.selects RX2 yX2_least yX2_least, Cond.code yX2_least cX2_least 3 (some .int), Cond.fieldLink RX2 20 "DoorBenchModel" "twice" "[I", Cond.fieldLink RX2 79 "DoorBenchModel" "more" "I", Cond.methodLink RX2 89 yX2_most, Cond.instanceMethod yX2_most, Cond.selects RX2 yX2_most yX2_most, Cond.code yX2_most cX2_most 3 (some .int), Cond.fieldLink RX2 23 "DoorBenchModel" "cap" "[I"]
def wsX2_forward_r3 : List Cond := [Cond.fieldLink RX2 17 "DoorBenchModel" "miss" "[I", Cond.methodLink RX2 95 yX2_netHigh, Cond.instanceMethod yX2_netHigh, Cond.selects RX2 yX2_netHigh yX2_netHigh, Cond.code yX2_netHigh cX2_netHigh 3 (some .int)]
def wsX2_forward : List Cond := .code yX2_forward cX2_forward 3 (some .int) :: ((wsX2_forward_r1 ++ (wsX2_forward_r2 ++ wsX2_forward_r3)) ++ wsX20)
def wsX2_backward_r1 : List Cond := [Cond.fieldLink RX2 7 "DoorBenchModel" "ticks" "I", Cond.fieldLink RX2 53 "DoorBenchModel" "back" "[I", Cond.constant RX2 112 (1000000), Cond.fieldLink RX2 59 "DoorBenchModel" "move" "[I", Cond.methodLink RX2 105 yX2_holds, Cond.instanceMethod yX2_holds, Cond.selects RX2 yX2_holds yX2_holds, Cond.initialized RX2, Cond.code yX2_holds cX2_holds 5 (some .boolean), Cond.fieldLink RX2 72 "DoorBenchModel" "checks" "I", Cond.fieldLink RX2 38 "DoorBenchModel" "cTime" "[I", Cond.fieldLink RX2 41 "DoorBenchModel" "cWhat" "[I", Cond.fieldLink RX2 44 "DoorBenchModel" "cLow" "[I", Cond.fieldLink RX2 47 "DoorBenchModel" "cHigh" "[I", Cond.methodLink RX2 82 yX2_greater, Cond.static yX2_greater, Cond.code yX2_greater cX2_greater 2 (some .int), Cond.methodLink RX2 98 yX2_lesser, Cond.static yX2_lesser, Cond.code yX2_lesser cX2_lesser 2 (some .int), Cond.methodLink RX2 101 yX2_close, Cond.instanceMethod yX2_close, Cond.selects RX2 yX2_close yX2_close, Cond.code yX2_close cX2_close 4 (some .boolean)]
def wsX2_backward_r2 : List Cond := [Cond.methodLink RX2 108 yX2_moves, Cond.instanceMethod yX2_moves, Cond.selects RX2 yX2_moves yX2_moves, Cond.code yX2_moves cX2_moves 4 none, Cond.fieldLink RX2 69 "DoorBenchModel" "doors" "I", Cond.fieldLink RX2 13 "DoorBenchModel" "kind" "[I", Cond.methodLink RX2 92 yX2_netLow, Cond.instanceMethod yX2_netLow, Cond.selects RX2 yX2_netLow yX2_netLow, Cond.code yX2_netLow cX2_netLow 3 (some .int), Cond.fieldLink RX2 26 "DoorBenchModel" "in" "[I", Cond.fieldLink RX2 29 "DoorBenchModel" "out" "[I", Cond.methodLink RX2 86 yX2_least, Cond.instanceMethod yX2_least, Cond.selects RX2 yX2_least yX2_least, Cond.code yX2_least cX2_least 3 (some .int), Cond.fieldLink RX2 20 "DoorBenchModel" "twice" "[I", Cond.fieldLink RX2 79 "DoorBenchModel" "more" "I", Cond.methodLink RX2 89 yX2_most, Cond.instanceMethod yX2_most, Cond.selects RX2 yX2_most yX2_most, Cond.code yX2_most cX2_most 3 (some .int), Cond.fieldLink RX2 23 "DoorBenchModel" "cap" "[I", Cond.fieldLink RX2 17 "DoorBenchModel" "miss" "[I"]
def wsX2_backward_r3 : List Cond := [Cond.methodLink RX2 95 yX2_netHigh, Cond.instanceMethod yX2_netHigh, Cond.selects RX2 yX2_netHigh yX2_netHigh, Cond.code yX2_netHigh cX2_netHigh 3 (some .int)]
def wsX2_backward : List Cond := .code yX2_backward cX2_backward 5 none :: ((wsX2_backward_r1 ++ (wsX2_backward_r2 ++ wsX2_backward_r3)) ++ wsX20)
def wsX2_work_r1 : List Cond := [Cond.fieldLink RX2 79 "DoorBenchModel" "more" "I", Cond.fieldLink RX2 7 "DoorBenchModel" "ticks" "I", Cond.fieldLink RX2 56 "DoorBenchModel" "both" "[I", Cond.fieldLink RX2 50 "DoorBenchModel" "ahead" "[I", Cond.fieldLink RX2 53 "DoorBenchModel" "back" "[I", Cond.methodLink RX2 113 yX2_forward, Cond.instanceMethod yX2_forward, Cond.selects RX2 yX2_forward yX2_forward, Cond.initialized RX2, Cond.code yX2_forward cX2_forward 3 (some .int), Cond.fieldLink RX2 32 "DoorBenchModel" "low" "[I", Cond.fieldLink RX2 35 "DoorBenchModel" "high" "[I", Cond.fieldLink RX2 59 "DoorBenchModel" "move" "[I", Cond.methodLink RX2 105 yX2_holds, Cond.instanceMethod yX2_holds, Cond.selects RX2 yX2_holds yX2_holds, Cond.code yX2_holds cX2_holds 5 (some .boolean), Cond.fieldLink RX2 72 "DoorBenchModel" "checks" "I", Cond.fieldLink RX2 38 "DoorBenchModel" "cTime" "[I", Cond.fieldLink RX2 41 "DoorBenchModel" "cWhat" "[I", Cond.fieldLink RX2 44 "DoorBenchModel" "cLow" "[I", Cond.fieldLink RX2 47 "DoorBenchModel" "cHigh" "[I", Cond.methodLink RX2 82 yX2_greater, Cond.static yX2_greater]
def wsX2_work_r2 : List Cond := [Cond.code yX2_greater cX2_greater 2 (some .int), Cond.methodLink RX2 98 yX2_lesser, Cond.static yX2_lesser, Cond.code yX2_lesser cX2_lesser 2 (some .int), Cond.methodLink RX2 101 yX2_close, Cond.instanceMethod yX2_close, Cond.selects RX2 yX2_close yX2_close, Cond.code yX2_close cX2_close 4 (some .boolean), Cond.methodLink RX2 108 yX2_moves, Cond.instanceMethod yX2_moves, Cond.selects RX2 yX2_moves yX2_moves, Cond.code yX2_moves cX2_moves 4 none, Cond.fieldLink RX2 69 "DoorBenchModel" "doors" "I", Cond.fieldLink RX2 13 "DoorBenchModel" "kind" "[I", Cond.methodLink RX2 92 yX2_netLow, Cond.instanceMethod yX2_netLow, Cond.selects RX2 yX2_netLow yX2_netLow, Cond.code yX2_netLow cX2_netLow 3 (some .int), Cond.fieldLink RX2 26 "DoorBenchModel" "in" "[I", Cond.fieldLink RX2 29 "DoorBenchModel" "out" "[I", Cond.methodLink RX2 86 yX2_least, Cond.instanceMethod yX2_least, Cond.selects RX2 yX2_least yX2_least, Cond.code yX2_least cX2_least 3 (some .int)]
def wsX2_work_r3 : List Cond := [Cond.fieldLink RX2 20 "DoorBenchModel" "twice" "[I", Cond.methodLink RX2 89 yX2_most, Cond.instanceMethod yX2_most, Cond.selects RX2 yX2_most yX2_most, Cond.code yX2_most cX2_most 3 (some .int), Cond.fieldLink RX2 23 "DoorBenchModel" "cap" "[I", Cond.fieldLink RX2 17 "DoorBenchModel" "miss" "[I", Cond.methodLink RX2 95 yX2_netHigh, Cond.instanceMethod yX2_netHigh, Cond.selects RX2 yX2_netHigh yX2_netHigh, Cond.code yX2_netHigh cX2_netHigh 3 (some .int), Cond.methodLink RX2 117 yX2_backward, Cond.instanceMethod yX2_backward, Cond.selects RX2 yX2_backward yX2_backward, Cond.code yX2_backward cX2_backward 5 none, Cond.constant RX2 112 (1000000)]
def wsX2_work : List Cond := .code yX2_work cX2_work 3 (some .boolean) :: ((wsX2_work_r1 ++ (wsX2_work_r2 ++ wsX2_work_r3)) ++ wsX20)
def wsX2_fits_r1 : List Cond := [Cond.fieldLink RX2 66 "DoorBenchModel" "thrown" "I", Cond.fieldLink RX2 79 "DoorBenchModel" "more" "I", Cond.methodLink RX2 113 yX2_forward, Cond.instanceMethod yX2_forward, Cond.selects RX2 yX2_forward yX2_forward, Cond.initialized RX2, Cond.code yX2_forward cX2_forward 3 (some .int), Cond.fieldLink RX2 50 "DoorBenchModel" "ahead" "[I", Cond.fieldLink RX2 32 "DoorBenchModel" "low" "[I", Cond.fieldLink RX2 35 "DoorBenchModel" "high" "[I", Cond.fieldLink RX2 7 "DoorBenchModel" "ticks" "I", Cond.fieldLink RX2 59 "DoorBenchModel" "move" "[I", Cond.methodLink RX2 105 yX2_holds, Cond.instanceMethod yX2_holds, Cond.selects RX2 yX2_holds yX2_holds, Cond.code yX2_holds cX2_holds 5 (some .boolean), Cond.fieldLink RX2 72 "DoorBenchModel" "checks" "I", Cond.fieldLink RX2 38 "DoorBenchModel" "cTime" "[I", Cond.fieldLink RX2 41 "DoorBenchModel" "cWhat" "[I", Cond.fieldLink RX2 44 "DoorBenchModel" "cLow" "[I", Cond.fieldLink RX2 47 "DoorBenchModel" "cHigh" "[I", Cond.methodLink RX2 82 yX2_greater, Cond.static yX2_greater, Cond.code yX2_greater cX2_greater 2 (some .int)]
def wsX2_fits_r2 : List Cond := [Cond.methodLink RX2 98 yX2_lesser, Cond.static yX2_lesser, Cond.code yX2_lesser cX2_lesser 2 (some .int), Cond.methodLink RX2 101 yX2_close, Cond.instanceMethod yX2_close, Cond.selects RX2 yX2_close yX2_close, Cond.code yX2_close cX2_close 4 (some .boolean), Cond.methodLink RX2 108 yX2_moves, Cond.instanceMethod yX2_moves, Cond.selects RX2 yX2_moves yX2_moves, Cond.code yX2_moves cX2_moves 4 none, Cond.fieldLink RX2 69 "DoorBenchModel" "doors" "I", Cond.fieldLink RX2 13 "DoorBenchModel" "kind" "[I", Cond.methodLink RX2 92 yX2_netLow, Cond.instanceMethod yX2_netLow, Cond.selects RX2 yX2_netLow yX2_netLow, Cond.code yX2_netLow cX2_netLow 3 (some .int), Cond.fieldLink RX2 26 "DoorBenchModel" "in" "[I", Cond.fieldLink RX2 29 "DoorBenchModel" "out" "[I", Cond.methodLink RX2 86 yX2_least, Cond.instanceMethod yX2_least, Cond.selects RX2 yX2_least yX2_least, Cond.code yX2_least cX2_least 3 (some .int), Cond.fieldLink RX2 20 "DoorBenchModel" "twice" "[I"]
def wsX2_fits_r3 : List Cond := [Cond.methodLink RX2 89 yX2_most, Cond.instanceMethod yX2_most, Cond.selects RX2 yX2_most yX2_most, Cond.code yX2_most cX2_most 3 (some .int), Cond.fieldLink RX2 23 "DoorBenchModel" "cap" "[I", Cond.fieldLink RX2 17 "DoorBenchModel" "miss" "[I", Cond.methodLink RX2 95 yX2_netHigh, Cond.instanceMethod yX2_netHigh, Cond.selects RX2 yX2_netHigh yX2_netHigh, Cond.code yX2_netHigh cX2_netHigh 3 (some .int)]
def wsX2_fits : List Cond := .code yX2_fits cX2_fits 1 (some .int) :: ((wsX2_fits_r1 ++ (wsX2_fits_r2 ++ wsX2_fits_r3)) ++ wsX20)
def wsX2_fails : List Cond := .code yX2_fails cX2_fails 2 (some .int) :: ([.fieldLink RX2 66 "DoorBenchModel" "thrown" "I"] ++ wsX20)
def wsX2_inside_r1 : List Cond := [Cond.fieldLink RX2 66 "DoorBenchModel" "thrown" "I", Cond.fieldLink RX2 7 "DoorBenchModel" "ticks" "I", Cond.fieldLink RX2 56 "DoorBenchModel" "both" "[I", Cond.methodLink RX2 120 yX2_fails, Cond.instanceMethod yX2_fails, Cond.selects RX2 yX2_fails yX2_fails, Cond.initialized RX2, Cond.code yX2_fails cX2_fails 2 (some .int), Cond.methodLink RX2 124 yX2_work, Cond.instanceMethod yX2_work, Cond.selects RX2 yX2_work yX2_work, Cond.code yX2_work cX2_work 3 (some .boolean), Cond.fieldLink RX2 79 "DoorBenchModel" "more" "I", Cond.fieldLink RX2 50 "DoorBenchModel" "ahead" "[I", Cond.fieldLink RX2 53 "DoorBenchModel" "back" "[I", Cond.methodLink RX2 113 yX2_forward, Cond.instanceMethod yX2_forward, Cond.selects RX2 yX2_forward yX2_forward, Cond.code yX2_forward cX2_forward 3 (some .int), Cond.fieldLink RX2 32 "DoorBenchModel" "low" "[I", Cond.fieldLink RX2 35 "DoorBenchModel" "high" "[I", Cond.fieldLink RX2 59 "DoorBenchModel" "move" "[I", Cond.methodLink RX2 105 yX2_holds, Cond.instanceMethod yX2_holds]
def wsX2_inside_r2 : List Cond := [Cond.selects RX2 yX2_holds yX2_holds, Cond.code yX2_holds cX2_holds 5 (some .boolean), Cond.fieldLink RX2 72 "DoorBenchModel" "checks" "I", Cond.fieldLink RX2 38 "DoorBenchModel" "cTime" "[I", Cond.fieldLink RX2 41 "DoorBenchModel" "cWhat" "[I", Cond.fieldLink RX2 44 "DoorBenchModel" "cLow" "[I", Cond.fieldLink RX2 47 "DoorBenchModel" "cHigh" "[I", Cond.methodLink RX2 82 yX2_greater, Cond.static yX2_greater, Cond.code yX2_greater cX2_greater 2 (some .int), Cond.methodLink RX2 98 yX2_lesser, Cond.static yX2_lesser, Cond.code yX2_lesser cX2_lesser 2 (some .int), Cond.methodLink RX2 101 yX2_close, Cond.instanceMethod yX2_close, Cond.selects RX2 yX2_close yX2_close, Cond.code yX2_close cX2_close 4 (some .boolean), Cond.methodLink RX2 108 yX2_moves, Cond.instanceMethod yX2_moves, Cond.selects RX2 yX2_moves yX2_moves, Cond.code yX2_moves cX2_moves 4 none, Cond.fieldLink RX2 69 "DoorBenchModel" "doors" "I", Cond.fieldLink RX2 13 "DoorBenchModel" "kind" "[I", Cond.methodLink RX2 92 yX2_netLow]
def wsX2_inside_r3 : List Cond := [Cond.instanceMethod yX2_netLow, Cond.selects RX2 yX2_netLow yX2_netLow, Cond.code yX2_netLow cX2_netLow 3 (some .int), Cond.fieldLink RX2 26 "DoorBenchModel" "in" "[I", Cond.fieldLink RX2 29 "DoorBenchModel" "out" "[I", Cond.methodLink RX2 86 yX2_least, Cond.instanceMethod yX2_least, Cond.selects RX2 yX2_least yX2_least, Cond.code yX2_least cX2_least 3 (some .int), Cond.fieldLink RX2 20 "DoorBenchModel" "twice" "[I", Cond.methodLink RX2 89 yX2_most, Cond.instanceMethod yX2_most, Cond.selects RX2 yX2_most yX2_most, Cond.code yX2_most cX2_most 3 (some .int), Cond.fieldLink RX2 23 "DoorBenchModel" "cap" "[I", Cond.fieldLink RX2 17 "DoorBenchModel" "miss" "[I", Cond.methodLink RX2 95 yX2_netHigh, Cond.instanceMethod yX2_netHigh, Cond.selects RX2 yX2_netHigh yX2_netHigh, Cond.code yX2_netHigh cX2_netHigh 3 (some .int), Cond.methodLink RX2 117 yX2_backward, Cond.instanceMethod yX2_backward, Cond.selects RX2 yX2_backward yX2_backward, Cond.code yX2_backward cX2_backward 5 none]
def wsX2_inside_r4 : List Cond := [Cond.constant RX2 112 (1000000)]
def wsX2_inside : List Cond := .code yX2_inside cX2_inside 4 (some .int) :: ((wsX2_inside_r1 ++ (wsX2_inside_r2 ++ (wsX2_inside_r3 ++ wsX2_inside_r4))) ++ wsX20)
def wsX2_above_r1 : List Cond := [Cond.constant RX2 128 (99999), Cond.fieldLink RX2 7 "DoorBenchModel" "ticks" "I", Cond.fieldLink RX2 56 "DoorBenchModel" "both" "[I", Cond.methodLink RX2 124 yX2_work, Cond.instanceMethod yX2_work, Cond.selects RX2 yX2_work yX2_work, Cond.initialized RX2, Cond.code yX2_work cX2_work 3 (some .boolean), Cond.fieldLink RX2 79 "DoorBenchModel" "more" "I", Cond.fieldLink RX2 50 "DoorBenchModel" "ahead" "[I", Cond.fieldLink RX2 53 "DoorBenchModel" "back" "[I", Cond.methodLink RX2 113 yX2_forward, Cond.instanceMethod yX2_forward, Cond.selects RX2 yX2_forward yX2_forward, Cond.code yX2_forward cX2_forward 3 (some .int), Cond.fieldLink RX2 32 "DoorBenchModel" "low" "[I", Cond.fieldLink RX2 35 "DoorBenchModel" "high" "[I", Cond.fieldLink RX2 59 "DoorBenchModel" "move" "[I", Cond.methodLink RX2 105 yX2_holds, Cond.instanceMethod yX2_holds, Cond.selects RX2 yX2_holds yX2_holds, Cond.code yX2_holds cX2_holds 5 (some .boolean), Cond.fieldLink RX2 72 "DoorBenchModel" "checks" "I", Cond.fieldLink RX2 38 "DoorBenchModel" "cTime" "[I"]
def wsX2_above_r2 : List Cond := [Cond.fieldLink RX2 41 "DoorBenchModel" "cWhat" "[I", Cond.fieldLink RX2 44 "DoorBenchModel" "cLow" "[I", Cond.fieldLink RX2 47 "DoorBenchModel" "cHigh" "[I", Cond.methodLink RX2 82 yX2_greater, Cond.static yX2_greater, Cond.code yX2_greater cX2_greater 2 (some .int), Cond.methodLink RX2 98 yX2_lesser, Cond.static yX2_lesser, Cond.code yX2_lesser cX2_lesser 2 (some .int), Cond.methodLink RX2 101 yX2_close, Cond.instanceMethod yX2_close, Cond.selects RX2 yX2_close yX2_close, Cond.code yX2_close cX2_close 4 (some .boolean), Cond.methodLink RX2 108 yX2_moves, Cond.instanceMethod yX2_moves, Cond.selects RX2 yX2_moves yX2_moves, Cond.code yX2_moves cX2_moves 4 none, Cond.fieldLink RX2 69 "DoorBenchModel" "doors" "I", Cond.fieldLink RX2 13 "DoorBenchModel" "kind" "[I", Cond.methodLink RX2 92 yX2_netLow, Cond.instanceMethod yX2_netLow, Cond.selects RX2 yX2_netLow yX2_netLow, Cond.code yX2_netLow cX2_netLow 3 (some .int), Cond.fieldLink RX2 26 "DoorBenchModel" "in" "[I"]
def wsX2_above_r3 : List Cond := [Cond.fieldLink RX2 29 "DoorBenchModel" "out" "[I", Cond.methodLink RX2 86 yX2_least, Cond.instanceMethod yX2_least, Cond.selects RX2 yX2_least yX2_least, Cond.code yX2_least cX2_least 3 (some .int), Cond.fieldLink RX2 20 "DoorBenchModel" "twice" "[I", Cond.methodLink RX2 89 yX2_most, Cond.instanceMethod yX2_most, Cond.selects RX2 yX2_most yX2_most, Cond.code yX2_most cX2_most 3 (some .int), Cond.fieldLink RX2 23 "DoorBenchModel" "cap" "[I", Cond.fieldLink RX2 17 "DoorBenchModel" "miss" "[I", Cond.methodLink RX2 95 yX2_netHigh, Cond.instanceMethod yX2_netHigh, Cond.selects RX2 yX2_netHigh yX2_netHigh, Cond.code yX2_netHigh cX2_netHigh 3 (some .int), Cond.methodLink RX2 117 yX2_backward, Cond.instanceMethod yX2_backward, Cond.selects RX2 yX2_backward yX2_backward, Cond.code yX2_backward cX2_backward 5 none, Cond.constant RX2 112 (1000000)]
def wsX2_above : List Cond := .code yX2_above cX2_above 4 (some .int) :: ((wsX2_above_r1 ++ (wsX2_above_r2 ++ wsX2_above_r3)) ++ wsX20)
def wsX2_could_r1 : List Cond := [Cond.fieldLink RX2 66 "DoorBenchModel" "thrown" "I", Cond.methodLink RX2 129 yX2_above, Cond.instanceMethod yX2_above, Cond.selects RX2 yX2_above yX2_above, Cond.initialized RX2, Cond.code yX2_above cX2_above 4 (some .int), Cond.constant RX2 128 (99999), Cond.fieldLink RX2 7 "DoorBenchModel" "ticks" "I", Cond.fieldLink RX2 56 "DoorBenchModel" "both" "[I", Cond.methodLink RX2 124 yX2_work, Cond.instanceMethod yX2_work, Cond.selects RX2 yX2_work yX2_work, Cond.code yX2_work cX2_work 3 (some .boolean), Cond.fieldLink RX2 79 "DoorBenchModel" "more" "I", Cond.fieldLink RX2 50 "DoorBenchModel" "ahead" "[I", Cond.fieldLink RX2 53 "DoorBenchModel" "back" "[I", Cond.methodLink RX2 113 yX2_forward, Cond.instanceMethod yX2_forward, Cond.selects RX2 yX2_forward yX2_forward, Cond.code yX2_forward cX2_forward 3 (some .int), Cond.fieldLink RX2 32 "DoorBenchModel" "low" "[I", Cond.fieldLink RX2 35 "DoorBenchModel" "high" "[I", Cond.fieldLink RX2 59 "DoorBenchModel" "move" "[I", Cond.methodLink RX2 105 yX2_holds]
def wsX2_could_r2 : List Cond := [Cond.instanceMethod yX2_holds, Cond.selects RX2 yX2_holds yX2_holds, Cond.code yX2_holds cX2_holds 5 (some .boolean), Cond.fieldLink RX2 72 "DoorBenchModel" "checks" "I", Cond.fieldLink RX2 38 "DoorBenchModel" "cTime" "[I", Cond.fieldLink RX2 41 "DoorBenchModel" "cWhat" "[I", Cond.fieldLink RX2 44 "DoorBenchModel" "cLow" "[I", Cond.fieldLink RX2 47 "DoorBenchModel" "cHigh" "[I", Cond.methodLink RX2 82 yX2_greater, Cond.static yX2_greater, Cond.code yX2_greater cX2_greater 2 (some .int), Cond.methodLink RX2 98 yX2_lesser, Cond.static yX2_lesser, Cond.code yX2_lesser cX2_lesser 2 (some .int), Cond.methodLink RX2 101 yX2_close, Cond.instanceMethod yX2_close, Cond.selects RX2 yX2_close yX2_close, Cond.code yX2_close cX2_close 4 (some .boolean), Cond.methodLink RX2 108 yX2_moves, Cond.instanceMethod yX2_moves, Cond.selects RX2 yX2_moves yX2_moves, Cond.code yX2_moves cX2_moves 4 none, Cond.fieldLink RX2 69 "DoorBenchModel" "doors" "I", Cond.fieldLink RX2 13 "DoorBenchModel" "kind" "[I"]
def wsX2_could_r3 : List Cond := [Cond.methodLink RX2 92 yX2_netLow, Cond.instanceMethod yX2_netLow, Cond.selects RX2 yX2_netLow yX2_netLow, Cond.code yX2_netLow cX2_netLow 3 (some .int), Cond.fieldLink RX2 26 "DoorBenchModel" "in" "[I", Cond.fieldLink RX2 29 "DoorBenchModel" "out" "[I", Cond.methodLink RX2 86 yX2_least, Cond.instanceMethod yX2_least, Cond.selects RX2 yX2_least yX2_least, Cond.code yX2_least cX2_least 3 (some .int), Cond.fieldLink RX2 20 "DoorBenchModel" "twice" "[I", Cond.methodLink RX2 89 yX2_most, Cond.instanceMethod yX2_most, Cond.selects RX2 yX2_most yX2_most, Cond.code yX2_most cX2_most 3 (some .int), Cond.fieldLink RX2 23 "DoorBenchModel" "cap" "[I", Cond.fieldLink RX2 17 "DoorBenchModel" "miss" "[I", Cond.methodLink RX2 95 yX2_netHigh, Cond.instanceMethod yX2_netHigh, Cond.selects RX2 yX2_netHigh yX2_netHigh, Cond.code yX2_netHigh cX2_netHigh 3 (some .int), Cond.methodLink RX2 117 yX2_backward, Cond.instanceMethod yX2_backward, Cond.selects RX2 yX2_backward yX2_backward]
def wsX2_could_r4 : List Cond := [Cond.code yX2_backward cX2_backward 5 none, Cond.constant RX2 112 (1000000)]
def wsX2_could : List Cond := .code yX2_could cX2_could 2 (some .int) :: ((wsX2_could_r1 ++ (wsX2_could_r2 ++ (wsX2_could_r3 ++ wsX2_could_r4))) ++ wsX20)
def wsX2_surely_r1 : List Cond := [Cond.fieldLink RX2 66 "DoorBenchModel" "thrown" "I", Cond.methodLink RX2 129 yX2_above, Cond.instanceMethod yX2_above, Cond.selects RX2 yX2_above yX2_above, Cond.initialized RX2, Cond.code yX2_above cX2_above 4 (some .int), Cond.constant RX2 128 (99999), Cond.fieldLink RX2 7 "DoorBenchModel" "ticks" "I", Cond.fieldLink RX2 56 "DoorBenchModel" "both" "[I", Cond.methodLink RX2 124 yX2_work, Cond.instanceMethod yX2_work, Cond.selects RX2 yX2_work yX2_work, Cond.code yX2_work cX2_work 3 (some .boolean), Cond.fieldLink RX2 79 "DoorBenchModel" "more" "I", Cond.fieldLink RX2 50 "DoorBenchModel" "ahead" "[I", Cond.fieldLink RX2 53 "DoorBenchModel" "back" "[I", Cond.methodLink RX2 113 yX2_forward, Cond.instanceMethod yX2_forward, Cond.selects RX2 yX2_forward yX2_forward, Cond.code yX2_forward cX2_forward 3 (some .int), Cond.fieldLink RX2 32 "DoorBenchModel" "low" "[I", Cond.fieldLink RX2 35 "DoorBenchModel" "high" "[I", Cond.fieldLink RX2 59 "DoorBenchModel" "move" "[I", Cond.methodLink RX2 105 yX2_holds]
def wsX2_surely_r2 : List Cond := [Cond.instanceMethod yX2_holds, Cond.selects RX2 yX2_holds yX2_holds, Cond.code yX2_holds cX2_holds 5 (some .boolean), Cond.fieldLink RX2 72 "DoorBenchModel" "checks" "I", Cond.fieldLink RX2 38 "DoorBenchModel" "cTime" "[I", Cond.fieldLink RX2 41 "DoorBenchModel" "cWhat" "[I", Cond.fieldLink RX2 44 "DoorBenchModel" "cLow" "[I", Cond.fieldLink RX2 47 "DoorBenchModel" "cHigh" "[I", Cond.methodLink RX2 82 yX2_greater, Cond.static yX2_greater, Cond.code yX2_greater cX2_greater 2 (some .int), Cond.methodLink RX2 98 yX2_lesser, Cond.static yX2_lesser, Cond.code yX2_lesser cX2_lesser 2 (some .int), Cond.methodLink RX2 101 yX2_close, Cond.instanceMethod yX2_close, Cond.selects RX2 yX2_close yX2_close, Cond.code yX2_close cX2_close 4 (some .boolean), Cond.methodLink RX2 108 yX2_moves, Cond.instanceMethod yX2_moves, Cond.selects RX2 yX2_moves yX2_moves, Cond.code yX2_moves cX2_moves 4 none, Cond.fieldLink RX2 69 "DoorBenchModel" "doors" "I", Cond.fieldLink RX2 13 "DoorBenchModel" "kind" "[I"]
def wsX2_surely_r3 : List Cond := [Cond.methodLink RX2 92 yX2_netLow, Cond.instanceMethod yX2_netLow, Cond.selects RX2 yX2_netLow yX2_netLow, Cond.code yX2_netLow cX2_netLow 3 (some .int), Cond.fieldLink RX2 26 "DoorBenchModel" "in" "[I", Cond.fieldLink RX2 29 "DoorBenchModel" "out" "[I", Cond.methodLink RX2 86 yX2_least, Cond.instanceMethod yX2_least, Cond.selects RX2 yX2_least yX2_least, Cond.code yX2_least cX2_least 3 (some .int), Cond.fieldLink RX2 20 "DoorBenchModel" "twice" "[I", Cond.methodLink RX2 89 yX2_most, Cond.instanceMethod yX2_most, Cond.selects RX2 yX2_most yX2_most, Cond.code yX2_most cX2_most 3 (some .int), Cond.fieldLink RX2 23 "DoorBenchModel" "cap" "[I", Cond.fieldLink RX2 17 "DoorBenchModel" "miss" "[I", Cond.methodLink RX2 95 yX2_netHigh, Cond.instanceMethod yX2_netHigh, Cond.selects RX2 yX2_netHigh yX2_netHigh, Cond.code yX2_netHigh cX2_netHigh 3 (some .int), Cond.methodLink RX2 117 yX2_backward, Cond.instanceMethod yX2_backward, Cond.selects RX2 yX2_backward yX2_backward]
def wsX2_surely_r4 : List Cond := [Cond.code yX2_backward cX2_backward 5 none, Cond.constant RX2 112 (1000000)]
def wsX2_surely : List Cond := .code yX2_surely cX2_surely 2 (some .int) :: ((wsX2_surely_r1 ++ (wsX2_surely_r2 ++ (wsX2_surely_r3 ++ wsX2_surely_r4))) ++ wsX20)
def wsX2_through_r1 : List Cond := [Cond.fieldLink RX2 66 "DoorBenchModel" "thrown" "I", Cond.fieldLink RX2 53 "DoorBenchModel" "back" "[I", Cond.fieldLink RX2 50 "DoorBenchModel" "ahead" "[I", Cond.fieldLink RX2 59 "DoorBenchModel" "move" "[I", Cond.fieldLink RX2 13 "DoorBenchModel" "kind" "[I", Cond.methodLink RX2 75 yX2_isRow, Cond.instanceMethod yX2_isRow, Cond.selects RX2 yX2_isRow yX2_isRow, Cond.initialized RX2, Cond.code yX2_isRow cX2_isRow 3 (some .boolean), Cond.fieldLink RX2 69 "DoorBenchModel" "doors" "I", Cond.fieldLink RX2 7 "DoorBenchModel" "ticks" "I", Cond.methodLink RX2 120 yX2_fails, Cond.instanceMethod yX2_fails, Cond.selects RX2 yX2_fails yX2_fails, Cond.code yX2_fails cX2_fails 2 (some .int), Cond.methodLink RX2 124 yX2_work, Cond.instanceMethod yX2_work, Cond.selects RX2 yX2_work yX2_work, Cond.code yX2_work cX2_work 3 (some .boolean), Cond.fieldLink RX2 79 "DoorBenchModel" "more" "I", Cond.fieldLink RX2 56 "DoorBenchModel" "both" "[I", Cond.methodLink RX2 113 yX2_forward, Cond.instanceMethod yX2_forward]
def wsX2_through_r2 : List Cond := [Cond.selects RX2 yX2_forward yX2_forward, Cond.code yX2_forward cX2_forward 3 (some .int), Cond.fieldLink RX2 32 "DoorBenchModel" "low" "[I", Cond.fieldLink RX2 35 "DoorBenchModel" "high" "[I", Cond.methodLink RX2 105 yX2_holds, Cond.instanceMethod yX2_holds, Cond.selects RX2 yX2_holds yX2_holds, Cond.code yX2_holds cX2_holds 5 (some .boolean), Cond.fieldLink RX2 72 "DoorBenchModel" "checks" "I", Cond.fieldLink RX2 38 "DoorBenchModel" "cTime" "[I", Cond.fieldLink RX2 41 "DoorBenchModel" "cWhat" "[I", Cond.fieldLink RX2 44 "DoorBenchModel" "cLow" "[I", Cond.fieldLink RX2 47 "DoorBenchModel" "cHigh" "[I", Cond.methodLink RX2 82 yX2_greater, Cond.static yX2_greater, Cond.code yX2_greater cX2_greater 2 (some .int), Cond.methodLink RX2 98 yX2_lesser, Cond.static yX2_lesser, Cond.code yX2_lesser cX2_lesser 2 (some .int), Cond.methodLink RX2 101 yX2_close, Cond.instanceMethod yX2_close, Cond.selects RX2 yX2_close yX2_close, Cond.code yX2_close cX2_close 4 (some .boolean), Cond.methodLink RX2 108 yX2_moves]
def wsX2_through_r3 : List Cond := [Cond.instanceMethod yX2_moves, Cond.selects RX2 yX2_moves yX2_moves, Cond.code yX2_moves cX2_moves 4 none, Cond.methodLink RX2 92 yX2_netLow, Cond.instanceMethod yX2_netLow, Cond.selects RX2 yX2_netLow yX2_netLow, Cond.code yX2_netLow cX2_netLow 3 (some .int), Cond.fieldLink RX2 26 "DoorBenchModel" "in" "[I", Cond.fieldLink RX2 29 "DoorBenchModel" "out" "[I", Cond.methodLink RX2 86 yX2_least, Cond.instanceMethod yX2_least, Cond.selects RX2 yX2_least yX2_least, Cond.code yX2_least cX2_least 3 (some .int), Cond.fieldLink RX2 20 "DoorBenchModel" "twice" "[I", Cond.methodLink RX2 89 yX2_most, Cond.instanceMethod yX2_most, Cond.selects RX2 yX2_most yX2_most, Cond.code yX2_most cX2_most 3 (some .int), Cond.fieldLink RX2 23 "DoorBenchModel" "cap" "[I", Cond.fieldLink RX2 17 "DoorBenchModel" "miss" "[I", Cond.methodLink RX2 95 yX2_netHigh, Cond.instanceMethod yX2_netHigh, Cond.selects RX2 yX2_netHigh yX2_netHigh, Cond.code yX2_netHigh cX2_netHigh 3 (some .int)]
def wsX2_through_r4 : List Cond := [Cond.methodLink RX2 117 yX2_backward, Cond.instanceMethod yX2_backward, Cond.selects RX2 yX2_backward yX2_backward, Cond.code yX2_backward cX2_backward 5 none, Cond.constant RX2 112 (1000000)]
def wsX2_through : List Cond := .code yX2_through cX2_through 13 (some .int) :: ((wsX2_through_r1 ++ (wsX2_through_r2 ++ (wsX2_through_r3 ++ wsX2_through_r4))) ++ wsX20)
def wsX2_worse_r1 : List Cond := [Cond.fieldLink RX2 66 "DoorBenchModel" "thrown" "I", Cond.fieldLink RX2 79 "DoorBenchModel" "more" "I", Cond.methodLink RX2 113 yX2_forward, Cond.instanceMethod yX2_forward, Cond.selects RX2 yX2_forward yX2_forward, Cond.initialized RX2, Cond.code yX2_forward cX2_forward 3 (some .int), Cond.fieldLink RX2 50 "DoorBenchModel" "ahead" "[I", Cond.fieldLink RX2 32 "DoorBenchModel" "low" "[I", Cond.fieldLink RX2 35 "DoorBenchModel" "high" "[I", Cond.fieldLink RX2 7 "DoorBenchModel" "ticks" "I", Cond.fieldLink RX2 59 "DoorBenchModel" "move" "[I", Cond.methodLink RX2 105 yX2_holds, Cond.instanceMethod yX2_holds, Cond.selects RX2 yX2_holds yX2_holds, Cond.code yX2_holds cX2_holds 5 (some .boolean), Cond.fieldLink RX2 72 "DoorBenchModel" "checks" "I", Cond.fieldLink RX2 38 "DoorBenchModel" "cTime" "[I", Cond.fieldLink RX2 41 "DoorBenchModel" "cWhat" "[I", Cond.fieldLink RX2 44 "DoorBenchModel" "cLow" "[I", Cond.fieldLink RX2 47 "DoorBenchModel" "cHigh" "[I", Cond.methodLink RX2 82 yX2_greater, Cond.static yX2_greater, Cond.code yX2_greater cX2_greater 2 (some .int)]
def wsX2_worse_r2 : List Cond := [Cond.methodLink RX2 98 yX2_lesser, Cond.static yX2_lesser, Cond.code yX2_lesser cX2_lesser 2 (some .int), Cond.methodLink RX2 101 yX2_close, Cond.instanceMethod yX2_close, Cond.selects RX2 yX2_close yX2_close, Cond.code yX2_close cX2_close 4 (some .boolean), Cond.methodLink RX2 108 yX2_moves, Cond.instanceMethod yX2_moves, Cond.selects RX2 yX2_moves yX2_moves, Cond.code yX2_moves cX2_moves 4 none, Cond.fieldLink RX2 69 "DoorBenchModel" "doors" "I", Cond.fieldLink RX2 13 "DoorBenchModel" "kind" "[I", Cond.methodLink RX2 92 yX2_netLow, Cond.instanceMethod yX2_netLow, Cond.selects RX2 yX2_netLow yX2_netLow, Cond.code yX2_netLow cX2_netLow 3 (some .int), Cond.fieldLink RX2 26 "DoorBenchModel" "in" "[I", Cond.fieldLink RX2 29 "DoorBenchModel" "out" "[I", Cond.methodLink RX2 86 yX2_least, Cond.instanceMethod yX2_least, Cond.selects RX2 yX2_least yX2_least, Cond.code yX2_least cX2_least 3 (some .int), Cond.fieldLink RX2 20 "DoorBenchModel" "twice" "[I"]
def wsX2_worse_r3 : List Cond := [Cond.methodLink RX2 89 yX2_most, Cond.instanceMethod yX2_most, Cond.selects RX2 yX2_most yX2_most, Cond.code yX2_most cX2_most 3 (some .int), Cond.fieldLink RX2 23 "DoorBenchModel" "cap" "[I", Cond.fieldLink RX2 17 "DoorBenchModel" "miss" "[I", Cond.methodLink RX2 95 yX2_netHigh, Cond.instanceMethod yX2_netHigh, Cond.selects RX2 yX2_netHigh yX2_netHigh, Cond.code yX2_netHigh cX2_netHigh 3 (some .int)]
def wsX2_worse : List Cond := .code yX2_worse cX2_worse 2 (some .int) :: ((wsX2_worse_r1 ++ (wsX2_worse_r2 ++ wsX2_worse_r3)) ++ wsX20)
def wsX2_quarrel_r1 : List Cond := [Cond.fieldLink RX2 66 "DoorBenchModel" "thrown" "I", Cond.fieldLink RX2 79 "DoorBenchModel" "more" "I", Cond.methodLink RX2 113 yX2_forward, Cond.instanceMethod yX2_forward, Cond.selects RX2 yX2_forward yX2_forward, Cond.initialized RX2, Cond.code yX2_forward cX2_forward 3 (some .int), Cond.fieldLink RX2 50 "DoorBenchModel" "ahead" "[I", Cond.fieldLink RX2 32 "DoorBenchModel" "low" "[I", Cond.fieldLink RX2 35 "DoorBenchModel" "high" "[I", Cond.fieldLink RX2 7 "DoorBenchModel" "ticks" "I", Cond.fieldLink RX2 59 "DoorBenchModel" "move" "[I", Cond.methodLink RX2 105 yX2_holds, Cond.instanceMethod yX2_holds, Cond.selects RX2 yX2_holds yX2_holds, Cond.code yX2_holds cX2_holds 5 (some .boolean), Cond.fieldLink RX2 72 "DoorBenchModel" "checks" "I", Cond.fieldLink RX2 38 "DoorBenchModel" "cTime" "[I", Cond.fieldLink RX2 41 "DoorBenchModel" "cWhat" "[I", Cond.fieldLink RX2 44 "DoorBenchModel" "cLow" "[I", Cond.fieldLink RX2 47 "DoorBenchModel" "cHigh" "[I", Cond.methodLink RX2 82 yX2_greater, Cond.static yX2_greater, Cond.code yX2_greater cX2_greater 2 (some .int)]
def wsX2_quarrel_r2 : List Cond := [Cond.methodLink RX2 98 yX2_lesser, Cond.static yX2_lesser, Cond.code yX2_lesser cX2_lesser 2 (some .int), Cond.methodLink RX2 101 yX2_close, Cond.instanceMethod yX2_close, Cond.selects RX2 yX2_close yX2_close, Cond.code yX2_close cX2_close 4 (some .boolean), Cond.methodLink RX2 108 yX2_moves, Cond.instanceMethod yX2_moves, Cond.selects RX2 yX2_moves yX2_moves, Cond.code yX2_moves cX2_moves 4 none, Cond.fieldLink RX2 69 "DoorBenchModel" "doors" "I", Cond.fieldLink RX2 13 "DoorBenchModel" "kind" "[I", Cond.methodLink RX2 92 yX2_netLow, Cond.instanceMethod yX2_netLow, Cond.selects RX2 yX2_netLow yX2_netLow, Cond.code yX2_netLow cX2_netLow 3 (some .int), Cond.fieldLink RX2 26 "DoorBenchModel" "in" "[I", Cond.fieldLink RX2 29 "DoorBenchModel" "out" "[I", Cond.methodLink RX2 86 yX2_least, Cond.instanceMethod yX2_least, Cond.selects RX2 yX2_least yX2_least, Cond.code yX2_least cX2_least 3 (some .int), Cond.fieldLink RX2 20 "DoorBenchModel" "twice" "[I"]
def wsX2_quarrel_r3 : List Cond := [Cond.methodLink RX2 89 yX2_most, Cond.instanceMethod yX2_most, Cond.selects RX2 yX2_most yX2_most, Cond.code yX2_most cX2_most 3 (some .int), Cond.fieldLink RX2 23 "DoorBenchModel" "cap" "[I", Cond.fieldLink RX2 17 "DoorBenchModel" "miss" "[I", Cond.methodLink RX2 95 yX2_netHigh, Cond.instanceMethod yX2_netHigh, Cond.selects RX2 yX2_netHigh yX2_netHigh, Cond.code yX2_netHigh cX2_netHigh 3 (some .int)]
def wsX2_quarrel : List Cond := .code yX2_quarrel cX2_quarrel 1 (some .int) :: ((wsX2_quarrel_r1 ++ (wsX2_quarrel_r2 ++ wsX2_quarrel_r3)) ++ wsX20)
def wsX2_look : List Cond := .code yX2_look cX2_look 5 (some .int) :: ([.fieldLink RX2 66 "DoorBenchModel" "thrown" "I", .fieldLink RX2 69 "DoorBenchModel" "doors" "I", .fieldLink RX2 13 "DoorBenchModel" "kind" "[I", .fieldLink RX2 17 "DoorBenchModel" "miss" "[I", .fieldLink RX2 20 "DoorBenchModel" "twice" "[I", .fieldLink RX2 23 "DoorBenchModel" "cap" "[I", .fieldLink RX2 7 "DoorBenchModel" "ticks" "I", .fieldLink RX2 26 "DoorBenchModel" "in" "[I", .fieldLink RX2 29 "DoorBenchModel" "out" "[I", .methodLink RX2 120 yX2_fails, .instanceMethod yX2_fails, .selects RX2 yX2_fails yX2_fails, .initialized RX2, .code yX2_fails cX2_fails 2 (some .int)] ++ wsX20)
def wsX2_count : List Cond := .code yX2_count cX2_count 5 (some .int) :: ([.fieldLink RX2 66 "DoorBenchModel" "thrown" "I", .fieldLink RX2 7 "DoorBenchModel" "ticks" "I", .fieldLink RX2 69 "DoorBenchModel" "doors" "I", .fieldLink RX2 72 "DoorBenchModel" "checks" "I", .fieldLink RX2 26 "DoorBenchModel" "in" "[I"] ++ wsX20)
def wsJ9_max_7cf53 : List Cond := .code yJ9_max_7cf53 cJ9_max_7cf53 2 (some .int) :: ([])
def wsJ9_min_7cf53 : List Cond := .code yJ9_min_7cf53 cJ9_min_7cf53 2 (some .int) :: ([])
def wsL_inside_r1 : List Cond := [Cond.classLink RL 13 "java/lang/IndexOutOfBoundsException", Cond.classLink RL 15 "java/util/NoSuchElementException", Cond.methodLink RL 7 yX1_inside, Cond.instanceMethod yX1_inside, Cond.selects RX1 yX1_inside yX1_inside, Cond.initialized RX1, Cond.code yX1_inside cX1_inside 4 (some .int), Cond.classLink RX1 93 "java/lang/IndexOutOfBoundsException", Cond.initialized "java/lang/IndexOutOfBoundsException", Cond.classLink RX1 100 "java/util/NoSuchElementException", Cond.initialized "java/util/NoSuchElementException", Cond.fieldLink RX1 49 "DoorBench" "spans" "LDoorBench$Spans;", Cond.methodLink RX1 80 yX1_isTime, Cond.instanceMethod yX1_isTime, Cond.selects RX1 yX1_isTime yX1_isTime, Cond.code yX1_isTime cX1_isTime 2 (some .boolean), Cond.fieldLink RX1 141 "DoorBench" "ticks" "I", Cond.methodLink RX1 57 yX1_within, Cond.static yX1_within, Cond.code yX1_within cX1_within 3 (some .boolean), Cond.methodLink RX1 83 yX1_isWhat, Cond.static yX1_isWhat, Cond.code yX1_isWhat cX1_isWhat 1 (some .boolean), Cond.methodLink RX1 89 yX1_lookAhead]
def wsL_inside_r2 : List Cond := [Cond.instanceMethod yX1_lookAhead, Cond.selects RX1 yX1_lookAhead yX1_lookAhead, Cond.code yX1_lookAhead cX1_lookAhead 3 (some .int), Cond.fieldLink RX1 28 "DoorBench" "startLow" "[I", Cond.fieldLink RX1 31 "DoorBench" "startHigh" "[I", Cond.methodLink RX1 166 yX0_put, Cond.instanceMethod yX0_put, Cond.selects RX0 yX0_put yX0_put, Cond.initialized RX0, Cond.code yX0_put cX0_put 6 none, Cond.fieldLink RX0 9 "DoorBench$Spans" "lows" "[I", Cond.fieldLink RX0 15 "DoorBench$Spans" "highs" "[I", Cond.methodLink RX0 18 yX0_at, Cond.static yX0_at, Cond.code yX0_at cX0_at 2 (some .int), Cond.methodLink RX1 120 yX1_gatherChange, Cond.instanceMethod yX1_gatherChange, Cond.selects RX1 yX1_gatherChange yX1_gatherChange, Cond.code yX1_gatherChange cX1_gatherChange 5 none, Cond.fieldLink RX1 61 "DoorBench" "doors" "I", Cond.fieldLink RX1 9 "DoorBench" "kinds" "[I", Cond.methodLink RX1 170 yX1_leastNet, Cond.instanceMethod yX1_leastNet, Cond.selects RX1 yX1_leastNet yX1_leastNet]
def wsL_inside_r3 : List Cond := [Cond.code yX1_leastNet cX1_leastNet 5 (some .int), Cond.fieldLink RX1 22 "DoorBench" "toldIn" "[I", Cond.fieldLink RX1 25 "DoorBench" "toldOut" "[I", Cond.methodLink RX1 72 yX1_place, Cond.static yX1_place, Cond.code yX1_place cX1_place 2 (some .int), Cond.methodLink RX1 159 yX1_leastPassed, Cond.instanceMethod yX1_leastPassed, Cond.selects RX1 yX1_leastPassed yX1_leastPassed, Cond.code yX1_leastPassed cX1_leastPassed 4 (some .int), Cond.fieldLink RX1 16 "DoorBench" "doubles" "[I", Cond.methodLink RX1 154 Lib.Math.max.name, Cond.static Lib.Math.max.name, Cond.initialized "java/lang/Math", Cond.code Lib.Math.max.name Lib.Math.max.code 2 (some .int), Cond.methodLink RX1 163 yX1_mostPassed, Cond.instanceMethod yX1_mostPassed, Cond.selects RX1 yX1_mostPassed yX1_mostPassed, Cond.code yX1_mostPassed cX1_mostPassed 4 (some .int), Cond.fieldLink RX1 19 "DoorBench" "caps" "[I", Cond.fieldLink RX1 13 "DoorBench" "misses" "[I", Cond.methodLink RX1 173 yX1_mostNet, Cond.instanceMethod yX1_mostNet, Cond.selects RX1 yX1_mostNet yX1_mostNet]
def wsL_inside_r4 : List Cond := [Cond.code yX1_mostNet cX1_mostNet 5 (some .int), Cond.methodLink RX1 176 yX1_addDoor, Cond.instanceMethod yX1_addDoor, Cond.selects RX1 yX1_addDoor yX1_addDoor, Cond.code yX1_addDoor cX1_addDoor 4 none, Cond.methodLink RX1 179 yX0_widen, Cond.instanceMethod yX0_widen, Cond.selects RX0 yX0_widen yX0_widen, Cond.code yX0_widen cX0_widen 6 none, Cond.methodLink RX1 182 yX0_putSum, Cond.instanceMethod yX0_putSum, Cond.selects RX0 yX0_putSum yX0_putSum, Cond.code yX0_putSum cX0_putSum 5 none, Cond.methodLink RX0 30 yX0_low, Cond.instanceMethod yX0_low, Cond.selects RX0 yX0_low yX0_low, Cond.code yX0_low cX0_low 3 (some .int), Cond.methodLink RX0 33 yX0_high, Cond.instanceMethod yX0_high, Cond.selects RX0 yX0_high yX0_high, Cond.code yX0_high cX0_high 3 (some .int), Cond.methodLink RX0 36 yX0_put, Cond.methodLink RX1 185 yX1_keepAllowed, Cond.instanceMethod yX1_keepAllowed]
def wsL_inside_r5 : List Cond := [Cond.selects RX1 yX1_keepAllowed yX1_keepAllowed, Cond.code yX1_keepAllowed cX1_keepAllowed 3 (some .boolean), Cond.constant RX1 188 (1000000), Cond.fieldLink RX1 86 "DoorBench" "checks" "I", Cond.fieldLink RX1 34 "DoorBench" "checkTime" "[I", Cond.fieldLink RX1 37 "DoorBench" "checkWhat" "[I", Cond.fieldLink RX1 40 "DoorBench" "checkLow" "[I", Cond.fieldLink RX1 43 "DoorBench" "checkHigh" "[I", Cond.methodLink RX1 189 yX0_cut, Cond.instanceMethod yX0_cut, Cond.selects RX0 yX0_cut yX0_cut, Cond.code yX0_cut cX0_cut 6 none, Cond.methodLink RX0 22 Lib.Math.max.name, Cond.methodLink RX0 27 Lib.Math.min.name, Cond.static Lib.Math.min.name, Cond.code Lib.Math.min.name Lib.Math.min.code 2 (some .int), Cond.methodLink RX1 192 yX0_tighten, Cond.instanceMethod yX0_tighten, Cond.selects RX0 yX0_tighten yX0_tighten, Cond.code yX0_tighten cX0_tighten 8 (some .boolean), Cond.methodLink RX0 40 yX0_cut, Cond.methodLink RX0 43 yX0_isSpan, Cond.instanceMethod yX0_isSpan, Cond.selects RX0 yX0_isSpan yX0_isSpan]
def wsL_inside_r6 : List Cond := [Cond.code yX0_isSpan cX0_isSpan 3 (some .boolean), Cond.methodLink RX1 105 yX1_lookBackTo, Cond.instanceMethod yX1_lookBackTo, Cond.selects RX1 yX1_lookBackTo yX1_lookBackTo, Cond.code yX1_lookBackTo cX1_lookBackTo 3 none, Cond.methodLink RX1 195 yX0_cutByDifference, Cond.instanceMethod yX0_cutByDifference, Cond.selects RX0 yX0_cutByDifference yX0_cutByDifference, Cond.code yX0_cutByDifference cX0_cutByDifference 5 none, Cond.methodLink RX1 108 yX0_high, Cond.methodLink RX1 111 yX0_low]
def wsL_inside : List Cond := .codeWith yL_inside cL_inside 6 (some .int) [(0, 12, 15, 13), (0, 12, 19, 15)] :: ((wsL_inside_r1 ++ (wsL_inside_r2 ++ (wsL_inside_r3 ++ (wsL_inside_r4 ++ (wsL_inside_r5 ++ wsL_inside_r6))))) ++ wsX10 ++ wsX00 ++ (vx_atS RX1 97 "java/lang/IndexOutOfBoundsException" ["java/lang/RuntimeException", "java/lang/Exception"]).filter goodWord ++ (vx_atS RX1 104 "java/util/NoSuchElementException" ["java/lang/RuntimeException", "java/lang/Exception"]).filter goodWord)
def wsL_through_r1 : List Cond := [Cond.classLink RL 13 "java/lang/IndexOutOfBoundsException", Cond.classLink RL 15 "java/util/NoSuchElementException", Cond.methodLink RL 17 yX1_through, Cond.instanceMethod yX1_through, Cond.selects RX1 yX1_through yX1_through, Cond.initialized RX1, Cond.code yX1_through cX1_through 4 (some .int), Cond.classLink RX1 93 "java/lang/IndexOutOfBoundsException", Cond.initialized "java/lang/IndexOutOfBoundsException", Cond.classLink RX1 100 "java/util/NoSuchElementException", Cond.initialized "java/util/NoSuchElementException", Cond.methodLink RX1 65 yX1_isDoor, Cond.instanceMethod yX1_isDoor, Cond.selects RX1 yX1_isDoor yX1_isDoor, Cond.code yX1_isDoor cX1_isDoor 2 (some .boolean), Cond.fieldLink RX1 61 "DoorBench" "doors" "I", Cond.methodLink RX1 57 yX1_within, Cond.static yX1_within, Cond.code yX1_within cX1_within 3 (some .boolean), Cond.methodLink RX1 69 yX1_isTick, Cond.instanceMethod yX1_isTick, Cond.selects RX1 yX1_isTick yX1_isTick, Cond.code yX1_isTick cX1_isTick 2 (some .boolean), Cond.fieldLink RX1 141 "DoorBench" "ticks" "I"]
def wsL_through_r2 : List Cond := [Cond.methodLink RX1 89 yX1_lookAhead, Cond.instanceMethod yX1_lookAhead, Cond.selects RX1 yX1_lookAhead yX1_lookAhead, Cond.code yX1_lookAhead cX1_lookAhead 3 (some .int), Cond.fieldLink RX1 49 "DoorBench" "spans" "LDoorBench$Spans;", Cond.fieldLink RX1 28 "DoorBench" "startLow" "[I", Cond.fieldLink RX1 31 "DoorBench" "startHigh" "[I", Cond.methodLink RX1 166 yX0_put, Cond.instanceMethod yX0_put, Cond.selects RX0 yX0_put yX0_put, Cond.initialized RX0, Cond.code yX0_put cX0_put 6 none, Cond.fieldLink RX0 9 "DoorBench$Spans" "lows" "[I", Cond.fieldLink RX0 15 "DoorBench$Spans" "highs" "[I", Cond.methodLink RX0 18 yX0_at, Cond.static yX0_at, Cond.code yX0_at cX0_at 2 (some .int), Cond.methodLink RX1 120 yX1_gatherChange, Cond.instanceMethod yX1_gatherChange, Cond.selects RX1 yX1_gatherChange yX1_gatherChange, Cond.code yX1_gatherChange cX1_gatherChange 5 none, Cond.fieldLink RX1 9 "DoorBench" "kinds" "[I", Cond.methodLink RX1 170 yX1_leastNet, Cond.instanceMethod yX1_leastNet]
def wsL_through_r3 : List Cond := [Cond.selects RX1 yX1_leastNet yX1_leastNet, Cond.code yX1_leastNet cX1_leastNet 5 (some .int), Cond.fieldLink RX1 22 "DoorBench" "toldIn" "[I", Cond.fieldLink RX1 25 "DoorBench" "toldOut" "[I", Cond.methodLink RX1 72 yX1_place, Cond.static yX1_place, Cond.code yX1_place cX1_place 2 (some .int), Cond.methodLink RX1 159 yX1_leastPassed, Cond.instanceMethod yX1_leastPassed, Cond.selects RX1 yX1_leastPassed yX1_leastPassed, Cond.code yX1_leastPassed cX1_leastPassed 4 (some .int), Cond.fieldLink RX1 16 "DoorBench" "doubles" "[I", Cond.methodLink RX1 154 Lib.Math.max.name, Cond.static Lib.Math.max.name, Cond.initialized "java/lang/Math", Cond.code Lib.Math.max.name Lib.Math.max.code 2 (some .int), Cond.methodLink RX1 163 yX1_mostPassed, Cond.instanceMethod yX1_mostPassed, Cond.selects RX1 yX1_mostPassed yX1_mostPassed, Cond.code yX1_mostPassed cX1_mostPassed 4 (some .int), Cond.fieldLink RX1 19 "DoorBench" "caps" "[I", Cond.fieldLink RX1 13 "DoorBench" "misses" "[I", Cond.methodLink RX1 173 yX1_mostNet, Cond.instanceMethod yX1_mostNet]
def wsL_through_r4 : List Cond := [Cond.selects RX1 yX1_mostNet yX1_mostNet, Cond.code yX1_mostNet cX1_mostNet 5 (some .int), Cond.methodLink RX1 176 yX1_addDoor, Cond.instanceMethod yX1_addDoor, Cond.selects RX1 yX1_addDoor yX1_addDoor, Cond.code yX1_addDoor cX1_addDoor 4 none, Cond.methodLink RX1 179 yX0_widen, Cond.instanceMethod yX0_widen, Cond.selects RX0 yX0_widen yX0_widen, Cond.code yX0_widen cX0_widen 6 none, Cond.methodLink RX1 182 yX0_putSum, Cond.instanceMethod yX0_putSum, Cond.selects RX0 yX0_putSum yX0_putSum, Cond.code yX0_putSum cX0_putSum 5 none, Cond.methodLink RX0 30 yX0_low, Cond.instanceMethod yX0_low, Cond.selects RX0 yX0_low yX0_low, Cond.code yX0_low cX0_low 3 (some .int), Cond.methodLink RX0 33 yX0_high, Cond.instanceMethod yX0_high, Cond.selects RX0 yX0_high yX0_high, Cond.code yX0_high cX0_high 3 (some .int), Cond.methodLink RX0 36 yX0_put, Cond.methodLink RX1 185 yX1_keepAllowed]
def wsL_through_r5 : List Cond := [Cond.instanceMethod yX1_keepAllowed, Cond.selects RX1 yX1_keepAllowed yX1_keepAllowed, Cond.code yX1_keepAllowed cX1_keepAllowed 3 (some .boolean), Cond.constant RX1 188 (1000000), Cond.fieldLink RX1 86 "DoorBench" "checks" "I", Cond.fieldLink RX1 34 "DoorBench" "checkTime" "[I", Cond.fieldLink RX1 37 "DoorBench" "checkWhat" "[I", Cond.fieldLink RX1 40 "DoorBench" "checkLow" "[I", Cond.fieldLink RX1 43 "DoorBench" "checkHigh" "[I", Cond.methodLink RX1 189 yX0_cut, Cond.instanceMethod yX0_cut, Cond.selects RX0 yX0_cut yX0_cut, Cond.code yX0_cut cX0_cut 6 none, Cond.methodLink RX0 22 Lib.Math.max.name, Cond.methodLink RX0 27 Lib.Math.min.name, Cond.static Lib.Math.min.name, Cond.code Lib.Math.min.name Lib.Math.min.code 2 (some .int), Cond.methodLink RX1 192 yX0_tighten, Cond.instanceMethod yX0_tighten, Cond.selects RX0 yX0_tighten yX0_tighten, Cond.code yX0_tighten cX0_tighten 8 (some .boolean), Cond.methodLink RX0 40 yX0_cut, Cond.methodLink RX0 43 yX0_isSpan, Cond.instanceMethod yX0_isSpan]
def wsL_through_r6 : List Cond := [Cond.selects RX0 yX0_isSpan yX0_isSpan, Cond.code yX0_isSpan cX0_isSpan 3 (some .boolean), Cond.methodLink RX1 105 yX1_lookBackTo, Cond.instanceMethod yX1_lookBackTo, Cond.selects RX1 yX1_lookBackTo yX1_lookBackTo, Cond.code yX1_lookBackTo cX1_lookBackTo 3 none, Cond.methodLink RX1 195 yX0_cutByDifference, Cond.instanceMethod yX0_cutByDifference, Cond.selects RX0 yX0_cutByDifference yX0_cutByDifference, Cond.code yX0_cutByDifference cX0_cutByDifference 5 none, Cond.methodLink RX1 124 yX1_mostThrough, Cond.instanceMethod yX1_mostThrough, Cond.selects RX1 yX1_mostThrough yX1_mostThrough, Cond.code yX1_mostThrough cX1_mostThrough 4 (some .int), Cond.methodLink RX1 205 Lib.Math.min.name, Cond.methodLink RX1 202 yX1_mostRest, Cond.instanceMethod yX1_mostRest, Cond.selects RX1 yX1_mostRest yX1_mostRest, Cond.code yX1_mostRest cX1_mostRest 3 (some .int), Cond.methodLink RX1 108 yX0_high, Cond.methodLink RX1 111 yX0_low, Cond.methodLink RX1 199 yX1_leastRest, Cond.instanceMethod yX1_leastRest, Cond.selects RX1 yX1_leastRest yX1_leastRest]
def wsL_through_r7 : List Cond := [Cond.code yX1_leastRest cX1_leastRest 3 (some .int), Cond.methodLink RX1 127 yX1_leastThrough, Cond.instanceMethod yX1_leastThrough, Cond.selects RX1 yX1_leastThrough yX1_leastThrough, Cond.code yX1_leastThrough cX1_leastThrough 4 (some .int)]
def wsL_through : List Cond := .codeWith yL_through cL_through 6 (some .int) [(0, 12, 15, 13), (0, 12, 19, 15)] :: ((wsL_through_r1 ++ (wsL_through_r2 ++ (wsL_through_r3 ++ (wsL_through_r4 ++ (wsL_through_r5 ++ (wsL_through_r6 ++ wsL_through_r7)))))) ++ wsX10 ++ wsX00 ++ (vx_atS RX1 97 "java/lang/IndexOutOfBoundsException" ["java/lang/RuntimeException", "java/lang/Exception"]).filter goodWord ++ (vx_atS RX1 104 "java/util/NoSuchElementException" ["java/lang/RuntimeException", "java/lang/Exception"]).filter goodWord)
def wsL_look_r1 : List Cond := [Cond.classLink RL 13 "java/lang/IndexOutOfBoundsException", Cond.classLink RL 15 "java/util/NoSuchElementException", Cond.methodLink RL 20 yX1_look, Cond.instanceMethod yX1_look, Cond.selects RX1 yX1_look yX1_look, Cond.initialized RX1, Cond.code yX1_look cX1_look 3 (some .int), Cond.classLink RX1 93 "java/lang/IndexOutOfBoundsException", Cond.initialized "java/lang/IndexOutOfBoundsException", Cond.classLink RX1 100 "java/util/NoSuchElementException", Cond.initialized "java/util/NoSuchElementException", Cond.fieldLink RX1 9 "DoorBench" "kinds" "[I", Cond.fieldLink RX1 13 "DoorBench" "misses" "[I", Cond.fieldLink RX1 16 "DoorBench" "doubles" "[I", Cond.fieldLink RX1 19 "DoorBench" "caps" "[I", Cond.fieldLink RX1 22 "DoorBench" "toldIn" "[I", Cond.fieldLink RX1 25 "DoorBench" "toldOut" "[I", Cond.methodLink RX1 65 yX1_isDoor, Cond.instanceMethod yX1_isDoor, Cond.selects RX1 yX1_isDoor yX1_isDoor, Cond.code yX1_isDoor cX1_isDoor 2 (some .boolean), Cond.fieldLink RX1 61 "DoorBench" "doors" "I", Cond.methodLink RX1 57 yX1_within, Cond.static yX1_within]
def wsL_look_r2 : List Cond := [Cond.code yX1_within cX1_within 3 (some .boolean), Cond.methodLink RX1 132 yX1_toldRows, Cond.instanceMethod yX1_toldRows, Cond.selects RX1 yX1_toldRows yX1_toldRows, Cond.code yX1_toldRows cX1_toldRows 4 (some .int), Cond.fieldLink RX1 141 "DoorBench" "ticks" "I", Cond.methodLink RX1 72 yX1_place, Cond.static yX1_place, Cond.code yX1_place cX1_place 2 (some .int), Cond.methodLink RX1 135 yX1_toldSum, Cond.instanceMethod yX1_toldSum, Cond.selects RX1 yX1_toldSum yX1_toldSum, Cond.code yX1_toldSum cX1_toldSum 6 (some .int)]
def wsL_look : List Cond := .codeWith yL_look cL_look 5 (some .int) [(0, 10, 13, 13), (0, 10, 17, 15)] :: ((wsL_look_r1 ++ wsL_look_r2) ++ wsX10 ++ (vx_atS RX1 97 "java/lang/IndexOutOfBoundsException" ["java/lang/RuntimeException", "java/lang/Exception"]).filter goodWord ++ (vx_atS RX1 104 "java/util/NoSuchElementException" ["java/lang/RuntimeException", "java/lang/Exception"]).filter goodWord)
def wsL_law0_r1 : List Cond := [Cond.classLink RL 8 RX1, Cond.instantiable RX1 16, Cond.initialized RX1, Cond.classLink RL 25 RX2, Cond.instantiable RX2 21, Cond.initialized RX2, Cond.arrayClass .long, Cond.methodLink RL 24 yX1_init, Cond.instanceMethod yX1_init, Cond.code yX1_init cX1_init 1 none, Cond.methodLink RX1 3 objectInit, Cond.instanceMethod objectInit, Cond.code objectInit ⟨#[0xb1]⟩ 1 none, Cond.arrayClass .int, Cond.fieldLink RX1 9 "DoorBench" "kinds" "[I", Cond.fieldLink RX1 13 "DoorBench" "misses" "[I", Cond.fieldLink RX1 16 "DoorBench" "doubles" "[I", Cond.fieldLink RX1 19 "DoorBench" "caps" "[I", Cond.fieldLink RX1 22 "DoorBench" "toldIn" "[I", Cond.fieldLink RX1 25 "DoorBench" "toldOut" "[I", Cond.fieldLink RX1 28 "DoorBench" "startLow" "[I", Cond.fieldLink RX1 31 "DoorBench" "startHigh" "[I", Cond.fieldLink RX1 34 "DoorBench" "checkTime" "[I", Cond.fieldLink RX1 37 "DoorBench" "checkWhat" "[I"]
def wsL_law0_r2 : List Cond := [Cond.fieldLink RX1 40 "DoorBench" "checkLow" "[I", Cond.fieldLink RX1 43 "DoorBench" "checkHigh" "[I", Cond.classLink RX1 46 RX0, Cond.instantiable RX0 2, Cond.initialized RX0, Cond.fieldLink RX1 49 "DoorBench" "spans" "LDoorBench$Spans;", Cond.methodLink RX1 48 yX0_init, Cond.instanceMethod yX0_init, Cond.code yX0_init cX0_init 1 none, Cond.methodLink RX0 3 objectInit, Cond.fieldLink RX0 9 "DoorBench$Spans" "lows" "[I", Cond.fieldLink RX0 15 "DoorBench$Spans" "highs" "[I", Cond.methodLink RX1 53 yX1_beginDay, Cond.instanceMethod yX1_beginDay, Cond.selects RX1 yX1_beginDay yX1_beginDay, Cond.code yX1_beginDay cX1_beginDay 2 none, Cond.fieldLink RX1 141 "DoorBench" "ticks" "I", Cond.fieldLink RX1 61 "DoorBench" "doors" "I", Cond.fieldLink RX1 86 "DoorBench" "checks" "I", Cond.methodLink RX1 148 yJ7_fill_53178, Cond.static yJ7_fill_53178, Cond.initialized RJ7, Cond.code yJ7_fill_53178 cJ7_fill_53178 4 none, Cond.methodLink RL 27 yX2_init]
def wsL_law0_r3 : List Cond := [Cond.instanceMethod yX2_init, Cond.code yX2_init cX2_init 1 none, Cond.methodLink RX2 1 objectInit, Cond.fieldLink RX2 7 "DoorBenchModel" "ticks" "I", Cond.fieldLink RX2 13 "DoorBenchModel" "kind" "[I", Cond.fieldLink RX2 17 "DoorBenchModel" "miss" "[I", Cond.fieldLink RX2 20 "DoorBenchModel" "twice" "[I", Cond.fieldLink RX2 23 "DoorBenchModel" "cap" "[I", Cond.fieldLink RX2 26 "DoorBenchModel" "in" "[I", Cond.fieldLink RX2 29 "DoorBenchModel" "out" "[I", Cond.fieldLink RX2 32 "DoorBenchModel" "low" "[I", Cond.fieldLink RX2 35 "DoorBenchModel" "high" "[I", Cond.fieldLink RX2 38 "DoorBenchModel" "cTime" "[I", Cond.fieldLink RX2 41 "DoorBenchModel" "cWhat" "[I", Cond.fieldLink RX2 44 "DoorBenchModel" "cLow" "[I", Cond.fieldLink RX2 47 "DoorBenchModel" "cHigh" "[I", Cond.fieldLink RX2 50 "DoorBenchModel" "ahead" "[I", Cond.fieldLink RX2 53 "DoorBenchModel" "back" "[I", Cond.fieldLink RX2 56 "DoorBenchModel" "both" "[I", Cond.fieldLink RX2 59 "DoorBenchModel" "move" "[I", Cond.methodLink RX2 62 yX2_clear, Cond.instanceMethod yX2_clear, Cond.selects RX2 yX2_clear yX2_clear, Cond.code yX2_clear cX2_clear 3 none]
def wsL_law0_r4 : List Cond := [Cond.fieldLink RX2 69 "DoorBenchModel" "doors" "I", Cond.fieldLink RX2 72 "DoorBenchModel" "checks" "I", Cond.methodLink RL 28 yX1_day, Cond.instanceMethod yX1_day, Cond.selects RX1 yX1_day yX1_day, Cond.code yX1_day cX1_day 2 (some .boolean), Cond.methodLink RX1 57 yX1_within, Cond.static yX1_within, Cond.code yX1_within cX1_within 3 (some .boolean), Cond.methodLink RL 32 yX2_day, Cond.instanceMethod yX2_day, Cond.selects RX2 yX2_day yX2_day, Cond.code yX2_day cX2_day 2 (some .boolean), Cond.fieldLink RX2 66 "DoorBenchModel" "thrown" "I", Cond.methodLink RL 33 yX1_door, Cond.instanceMethod yX1_door, Cond.selects RX1 yX1_door yX1_door, Cond.code yX1_door cX1_door 7 (some .int), Cond.methodLink RL 37 yX2_door, Cond.instanceMethod yX2_door, Cond.selects RX2 yX2_door yX2_door, Cond.code yX2_door cX2_door 5 (some .int), Cond.methodLink RL 38 yX1_row, Cond.instanceMethod yX1_row]
def wsL_law0_r5 : List Cond := [Cond.selects RX1 yX1_row yX1_row, Cond.code yX1_row cX1_row 7 (some .boolean), Cond.methodLink RX1 65 yX1_isDoor, Cond.instanceMethod yX1_isDoor, Cond.selects RX1 yX1_isDoor yX1_isDoor, Cond.code yX1_isDoor cX1_isDoor 2 (some .boolean), Cond.methodLink RX1 69 yX1_isTick, Cond.instanceMethod yX1_isTick, Cond.selects RX1 yX1_isTick yX1_isTick, Cond.code yX1_isTick cX1_isTick 2 (some .boolean), Cond.methodLink RX1 72 yX1_place, Cond.static yX1_place, Cond.code yX1_place cX1_place 2 (some .int), Cond.methodLink RL 42 yX2_row, Cond.instanceMethod yX2_row, Cond.selects RX2 yX2_row yX2_row, Cond.code yX2_row cX2_row 5 (some .boolean), Cond.methodLink RX2 75 yX2_isRow, Cond.instanceMethod yX2_isRow, Cond.selects RX2 yX2_isRow yX2_isRow, Cond.code yX2_isRow cX2_isRow 3 (some .boolean), Cond.methodLink RL 43 yX1_lack, Cond.instanceMethod yX1_lack, Cond.selects RX1 yX1_lack yX1_lack]
def wsL_law0_r6 : List Cond := [Cond.code yX1_lack cX1_lack 5 (some .boolean), Cond.methodLink RL 47 yX2_lack, Cond.instanceMethod yX2_lack, Cond.selects RX2 yX2_lack yX2_lack, Cond.code yX2_lack cX2_lack 5 (some .boolean), Cond.methodLink RL 48 yX1_start, Cond.instanceMethod yX1_start, Cond.selects RX1 yX1_start yX1_start, Cond.code yX1_start cX1_start 4 (some .boolean), Cond.methodLink RX1 76 yX1_isSpanInside, Cond.static yX1_isSpanInside, Cond.code yX1_isSpanInside cX1_isSpanInside 2 (some .boolean), Cond.methodLink RL 51 yX2_start, Cond.instanceMethod yX2_start, Cond.selects RX2 yX2_start yX2_start, Cond.code yX2_start cX2_start 4 (some .boolean), Cond.methodLink RL 52 yX1_check, Cond.instanceMethod yX1_check, Cond.selects RX1 yX1_check yX1_check, Cond.code yX1_check cX1_check 7 (some .int), Cond.methodLink RX1 80 yX1_isTime, Cond.instanceMethod yX1_isTime, Cond.selects RX1 yX1_isTime yX1_isTime, Cond.code yX1_isTime cX1_isTime 2 (some .boolean)]
def wsL_law0_r7 : List Cond := [Cond.methodLink RX1 83 yX1_isWhat, Cond.static yX1_isWhat, Cond.code yX1_isWhat cX1_isWhat 1 (some .boolean), Cond.methodLink RL 55 yX2_check, Cond.instanceMethod yX2_check, Cond.selects RX2 yX2_check yX2_check, Cond.code yX2_check cX2_check 5 (some .int), Cond.methodLink RL 56 yX1_uncheck, Cond.instanceMethod yX1_uncheck, Cond.selects RX1 yX1_uncheck yX1_uncheck, Cond.code yX1_uncheck cX1_uncheck 1 (some .int), Cond.methodLink RL 60 yX2_uncheck, Cond.instanceMethod yX2_uncheck, Cond.selects RX2 yX2_uncheck yX2_uncheck, Cond.code yX2_uncheck cX2_uncheck 1 (some .int), Cond.methodLink RL 61 yX1_fits, Cond.instanceMethod yX1_fits, Cond.selects RX1 yX1_fits yX1_fits, Cond.code yX1_fits cX1_fits 1 (some .int), Cond.methodLink RX1 89 yX1_lookAhead, Cond.instanceMethod yX1_lookAhead, Cond.selects RX1 yX1_lookAhead yX1_lookAhead, Cond.code yX1_lookAhead cX1_lookAhead 3 (some .int), Cond.methodLink RX1 166 yX0_put]
def wsL_law0_r8 : List Cond := [Cond.instanceMethod yX0_put, Cond.selects RX0 yX0_put yX0_put, Cond.code yX0_put cX0_put 6 none, Cond.methodLink RX0 18 yX0_at, Cond.static yX0_at, Cond.code yX0_at cX0_at 2 (some .int), Cond.methodLink RX1 120 yX1_gatherChange, Cond.instanceMethod yX1_gatherChange, Cond.selects RX1 yX1_gatherChange yX1_gatherChange, Cond.code yX1_gatherChange cX1_gatherChange 5 none, Cond.methodLink RX1 170 yX1_leastNet, Cond.instanceMethod yX1_leastNet, Cond.selects RX1 yX1_leastNet yX1_leastNet, Cond.code yX1_leastNet cX1_leastNet 5 (some .int), Cond.methodLink RX1 159 yX1_leastPassed, Cond.instanceMethod yX1_leastPassed, Cond.selects RX1 yX1_leastPassed yX1_leastPassed, Cond.code yX1_leastPassed cX1_leastPassed 4 (some .int), Cond.methodLink RX1 154 Lib.Math.max.name, Cond.static Lib.Math.max.name, Cond.initialized "java/lang/Math", Cond.code Lib.Math.max.name Lib.Math.max.code 2 (some .int), Cond.methodLink RX1 163 yX1_mostPassed, Cond.instanceMethod yX1_mostPassed]
def wsL_law0_r9 : List Cond := [Cond.selects RX1 yX1_mostPassed yX1_mostPassed, Cond.code yX1_mostPassed cX1_mostPassed 4 (some .int), Cond.methodLink RX1 173 yX1_mostNet, Cond.instanceMethod yX1_mostNet, Cond.selects RX1 yX1_mostNet yX1_mostNet, Cond.code yX1_mostNet cX1_mostNet 5 (some .int), Cond.methodLink RX1 176 yX1_addDoor, Cond.instanceMethod yX1_addDoor, Cond.selects RX1 yX1_addDoor yX1_addDoor, Cond.code yX1_addDoor cX1_addDoor 4 none, Cond.methodLink RX1 179 yX0_widen, Cond.instanceMethod yX0_widen, Cond.selects RX0 yX0_widen yX0_widen, Cond.code yX0_widen cX0_widen 6 none, Cond.methodLink RX1 182 yX0_putSum, Cond.instanceMethod yX0_putSum, Cond.selects RX0 yX0_putSum yX0_putSum, Cond.code yX0_putSum cX0_putSum 5 none, Cond.methodLink RX0 30 yX0_low, Cond.instanceMethod yX0_low, Cond.selects RX0 yX0_low yX0_low, Cond.code yX0_low cX0_low 3 (some .int), Cond.methodLink RX0 33 yX0_high, Cond.instanceMethod yX0_high]
def wsL_law0_r10 : List Cond := [Cond.selects RX0 yX0_high yX0_high, Cond.code yX0_high cX0_high 3 (some .int), Cond.methodLink RX0 36 yX0_put, Cond.methodLink RX1 185 yX1_keepAllowed, Cond.instanceMethod yX1_keepAllowed, Cond.selects RX1 yX1_keepAllowed yX1_keepAllowed, Cond.code yX1_keepAllowed cX1_keepAllowed 3 (some .boolean), Cond.constant RX1 188 (1000000), Cond.methodLink RX1 189 yX0_cut, Cond.instanceMethod yX0_cut, Cond.selects RX0 yX0_cut yX0_cut, Cond.code yX0_cut cX0_cut 6 none, Cond.methodLink RX0 22 Lib.Math.max.name, Cond.methodLink RX0 27 Lib.Math.min.name, Cond.static Lib.Math.min.name, Cond.code Lib.Math.min.name Lib.Math.min.code 2 (some .int), Cond.methodLink RX1 192 yX0_tighten, Cond.instanceMethod yX0_tighten, Cond.selects RX0 yX0_tighten yX0_tighten, Cond.code yX0_tighten cX0_tighten 8 (some .boolean), Cond.methodLink RX0 40 yX0_cut, Cond.methodLink RX0 43 yX0_isSpan, Cond.instanceMethod yX0_isSpan, Cond.selects RX0 yX0_isSpan yX0_isSpan]
def wsL_law0_r11 : List Cond := [Cond.code yX0_isSpan cX0_isSpan 3 (some .boolean), Cond.methodLink RL 64 yX2_fits, Cond.instanceMethod yX2_fits, Cond.selects RX2 yX2_fits yX2_fits, Cond.code yX2_fits cX2_fits 1 (some .int), Cond.fieldLink RX2 79 "DoorBenchModel" "more" "I", Cond.methodLink RX2 113 yX2_forward, Cond.instanceMethod yX2_forward, Cond.selects RX2 yX2_forward yX2_forward, Cond.code yX2_forward cX2_forward 3 (some .int), Cond.methodLink RX2 105 yX2_holds, Cond.instanceMethod yX2_holds, Cond.selects RX2 yX2_holds yX2_holds, Cond.code yX2_holds cX2_holds 5 (some .boolean), Cond.methodLink RX2 82 yX2_greater, Cond.static yX2_greater, Cond.code yX2_greater cX2_greater 2 (some .int), Cond.methodLink RX2 98 yX2_lesser, Cond.static yX2_lesser, Cond.code yX2_lesser cX2_lesser 2 (some .int), Cond.methodLink RX2 101 yX2_close, Cond.instanceMethod yX2_close, Cond.selects RX2 yX2_close yX2_close, Cond.code yX2_close cX2_close 4 (some .boolean)]
def wsL_law0_r12 : List Cond := [Cond.methodLink RX2 108 yX2_moves, Cond.instanceMethod yX2_moves, Cond.selects RX2 yX2_moves yX2_moves, Cond.code yX2_moves cX2_moves 4 none, Cond.methodLink RX2 92 yX2_netLow, Cond.instanceMethod yX2_netLow, Cond.selects RX2 yX2_netLow yX2_netLow, Cond.code yX2_netLow cX2_netLow 3 (some .int), Cond.methodLink RX2 86 yX2_least, Cond.instanceMethod yX2_least, Cond.selects RX2 yX2_least yX2_least, Cond.code yX2_least cX2_least 3 (some .int), Cond.methodLink RX2 89 yX2_most, Cond.instanceMethod yX2_most, Cond.selects RX2 yX2_most yX2_most, Cond.code yX2_most cX2_most 3 (some .int), Cond.methodLink RX2 95 yX2_netHigh, Cond.instanceMethod yX2_netHigh, Cond.selects RX2 yX2_netHigh yX2_netHigh, Cond.code yX2_netHigh cX2_netHigh 3 (some .int), Cond.methodLink RL 65 yL_inside, Cond.static yL_inside, Cond.initialized RL, Cond.codeWith yL_inside cL_inside 6 (some .int) [(0, 12, 15, 13), (0, 12, 19, 15)]]
def wsL_law0_r13 : List Cond := [Cond.classLink RL 13 "java/lang/IndexOutOfBoundsException", Cond.classLink RL 15 "java/util/NoSuchElementException", Cond.methodLink RL 7 yX1_inside, Cond.instanceMethod yX1_inside, Cond.selects RX1 yX1_inside yX1_inside, Cond.code yX1_inside cX1_inside 4 (some .int), Cond.classLink RX1 93 "java/lang/IndexOutOfBoundsException", Cond.initialized "java/lang/IndexOutOfBoundsException", Cond.classLink RX1 100 "java/util/NoSuchElementException", Cond.initialized "java/util/NoSuchElementException", Cond.methodLink RX1 105 yX1_lookBackTo, Cond.instanceMethod yX1_lookBackTo, Cond.selects RX1 yX1_lookBackTo yX1_lookBackTo, Cond.code yX1_lookBackTo cX1_lookBackTo 3 none, Cond.methodLink RX1 195 yX0_cutByDifference, Cond.instanceMethod yX0_cutByDifference, Cond.selects RX0 yX0_cutByDifference yX0_cutByDifference, Cond.code yX0_cutByDifference cX0_cutByDifference 5 none, Cond.methodLink RX1 108 yX0_high, Cond.methodLink RX1 111 yX0_low, Cond.methodLink RL 70 yX2_inside, Cond.instanceMethod yX2_inside, Cond.selects RX2 yX2_inside yX2_inside, Cond.code yX2_inside cX2_inside 4 (some .int)]
def wsL_law0_r14 : List Cond := [Cond.methodLink RX2 120 yX2_fails, Cond.instanceMethod yX2_fails, Cond.selects RX2 yX2_fails yX2_fails, Cond.code yX2_fails cX2_fails 2 (some .int), Cond.methodLink RX2 124 yX2_work, Cond.instanceMethod yX2_work, Cond.selects RX2 yX2_work yX2_work, Cond.code yX2_work cX2_work 3 (some .boolean), Cond.methodLink RX2 117 yX2_backward, Cond.instanceMethod yX2_backward, Cond.selects RX2 yX2_backward yX2_backward, Cond.code yX2_backward cX2_backward 5 none, Cond.constant RX2 112 (1000000), Cond.methodLink RL 71 yX2_thrown, Cond.instanceMethod yX2_thrown, Cond.selects RX2 yX2_thrown yX2_thrown, Cond.code yX2_thrown cX2_thrown 1 (some .int), Cond.methodLink RL 74 yX1_could, Cond.instanceMethod yX1_could, Cond.selects RX1 yX1_could yX1_could, Cond.code yX1_could cX1_could 2 (some .int), Cond.methodLink RX1 114 yX1_firstAbove, Cond.instanceMethod yX1_firstAbove, Cond.selects RX1 yX1_firstAbove yX1_firstAbove]
def wsL_law0_r15 : List Cond := [Cond.code yX1_firstAbove cX1_firstAbove 5 (some .int), Cond.constant RX1 198 (99999), Cond.methodLink RL 78 yX2_could, Cond.instanceMethod yX2_could, Cond.selects RX2 yX2_could yX2_could, Cond.code yX2_could cX2_could 2 (some .int), Cond.methodLink RX2 129 yX2_above, Cond.instanceMethod yX2_above, Cond.selects RX2 yX2_above yX2_above, Cond.code yX2_above cX2_above 4 (some .int), Cond.constant RX2 128 (99999), Cond.methodLink RL 79 yX1_surely, Cond.instanceMethod yX1_surely, Cond.selects RX1 yX1_surely yX1_surely, Cond.code yX1_surely cX1_surely 2 (some .int), Cond.methodLink RL 82 yX2_surely, Cond.instanceMethod yX2_surely, Cond.selects RX2 yX2_surely yX2_surely, Cond.code yX2_surely cX2_surely 2 (some .int), Cond.methodLink RL 83 yL_through, Cond.static yL_through, Cond.codeWith yL_through cL_through 6 (some .int) [(0, 12, 15, 13), (0, 12, 19, 15)], Cond.methodLink RL 17 yX1_through, Cond.instanceMethod yX1_through]
def wsL_law0_r16 : List Cond := [Cond.selects RX1 yX1_through yX1_through, Cond.code yX1_through cX1_through 4 (some .int), Cond.methodLink RX1 124 yX1_mostThrough, Cond.instanceMethod yX1_mostThrough, Cond.selects RX1 yX1_mostThrough yX1_mostThrough, Cond.code yX1_mostThrough cX1_mostThrough 4 (some .int), Cond.methodLink RX1 205 Lib.Math.min.name, Cond.methodLink RX1 202 yX1_mostRest, Cond.instanceMethod yX1_mostRest, Cond.selects RX1 yX1_mostRest yX1_mostRest, Cond.code yX1_mostRest cX1_mostRest 3 (some .int), Cond.methodLink RX1 199 yX1_leastRest, Cond.instanceMethod yX1_leastRest, Cond.selects RX1 yX1_leastRest yX1_leastRest, Cond.code yX1_leastRest cX1_leastRest 3 (some .int), Cond.methodLink RX1 127 yX1_leastThrough, Cond.instanceMethod yX1_leastThrough, Cond.selects RX1 yX1_leastThrough yX1_leastThrough, Cond.code yX1_leastThrough cX1_leastThrough 4 (some .int), Cond.methodLink RL 85 yX2_through, Cond.instanceMethod yX2_through, Cond.selects RX2 yX2_through yX2_through, Cond.code yX2_through cX2_through 13 (some .int), Cond.methodLink RL 86 yX1_worse]
def wsL_law0_r17 : List Cond := [Cond.instanceMethod yX1_worse, Cond.selects RX1 yX1_worse yX1_worse, Cond.code yX1_worse cX1_worse 2 (some .int), Cond.methodLink RL 89 yX2_worse, Cond.instanceMethod yX2_worse, Cond.selects RX2 yX2_worse yX2_worse, Cond.code yX2_worse cX2_worse 2 (some .int), Cond.methodLink RL 90 yX1_quarrel, Cond.instanceMethod yX1_quarrel, Cond.selects RX1 yX1_quarrel yX1_quarrel, Cond.code yX1_quarrel cX1_quarrel 1 (some .int), Cond.methodLink RL 93 yX2_quarrel, Cond.instanceMethod yX2_quarrel, Cond.selects RX2 yX2_quarrel yX2_quarrel, Cond.code yX2_quarrel cX2_quarrel 1 (some .int), Cond.methodLink RL 94 yL_look, Cond.static yL_look, Cond.codeWith yL_look cL_look 5 (some .int) [(0, 10, 13, 13), (0, 10, 17, 15)], Cond.methodLink RL 20 yX1_look, Cond.instanceMethod yX1_look, Cond.selects RX1 yX1_look yX1_look, Cond.code yX1_look cX1_look 3 (some .int), Cond.methodLink RX1 132 yX1_toldRows, Cond.instanceMethod yX1_toldRows]
def wsL_law0_r18 : List Cond := [Cond.selects RX1 yX1_toldRows yX1_toldRows, Cond.code yX1_toldRows cX1_toldRows 4 (some .int), Cond.methodLink RX1 135 yX1_toldSum, Cond.instanceMethod yX1_toldSum, Cond.selects RX1 yX1_toldSum yX1_toldSum, Cond.code yX1_toldSum cX1_toldSum 6 (some .int), Cond.methodLink RL 97 yX2_look, Cond.instanceMethod yX2_look, Cond.selects RX2 yX2_look yX2_look, Cond.code yX2_look cX2_look 5 (some .int), Cond.methodLink RL 98 yX1_count, Cond.instanceMethod yX1_count, Cond.selects RX1 yX1_count yX1_count, Cond.code yX1_count cX1_count 2 (some .int), Cond.methodLink RX1 144 yX1_allToldRows, Cond.instanceMethod yX1_allToldRows, Cond.selects RX1 yX1_allToldRows yX1_allToldRows, Cond.code yX1_allToldRows cX1_allToldRows 3 (some .int), Cond.methodLink RL 101 yX2_count, Cond.instanceMethod yX2_count, Cond.selects RX2 yX2_count yX2_count, Cond.code yX2_count cX2_count 5 (some .int)]
def wsL_law0 : List Cond := (wsL_law0_r1 ++ (wsL_law0_r2 ++ (wsL_law0_r3 ++ (wsL_law0_r4 ++ (wsL_law0_r5 ++ (wsL_law0_r6 ++ (wsL_law0_r7 ++ (wsL_law0_r8 ++ (wsL_law0_r9 ++ (wsL_law0_r10 ++ (wsL_law0_r11 ++ (wsL_law0_r12 ++ (wsL_law0_r13 ++ (wsL_law0_r14 ++ (wsL_law0_r15 ++ (wsL_law0_r16 ++ (wsL_law0_r17 ++ wsL_law0_r18))))))))))))))))) ++ wsX10 ++ wsX20 ++ wsX00 ++ ([] : List Cond)
def wsL_law : List Cond := wsL_law0 ++ (vx_atS RX1 97 "java/lang/IndexOutOfBoundsException" ["java/lang/RuntimeException", "java/lang/Exception"]).filter goodWord ++ (vx_atS RX1 104 "java/util/NoSuchElementException" ["java/lang/RuntimeException", "java/lang/Exception"]).filter goodWord
abbrev vwCl : List vw_C := [(RX0, TX0, 2), (RX1, TX1, 16), (RX2, TX2, 21)]
end
section
theorem dX0_init_0 : decode cX0_init 0 = .ok (.aload_n 0, 1) := by decide +kernel
theorem dX0_init_1 : decode cX0_init 1 = .ok (.invokespecial 3, 3) := by decide +kernel
theorem dX0_init_4 : decode cX0_init 4 = .ok (.aload_n 0, 1) := by decide +kernel
theorem dX0_init_5 : decode cX0_init 5 = .ok (.sipush 186, 3) := by decide +kernel
theorem dX0_init_8 : decode cX0_init 8 = .ok (.newarray .int, 2) := by decide +kernel
theorem dX0_init_10 : decode cX0_init 10 = .ok (.putfield 9, 3) := by decide +kernel
theorem dX0_init_13 : decode cX0_init 13 = .ok (.aload_n 0, 1) := by decide +kernel
theorem dX0_init_14 : decode cX0_init 14 = .ok (.sipush 186, 3) := by decide +kernel
theorem dX0_init_17 : decode cX0_init 17 = .ok (.newarray .int, 2) := by decide +kernel
theorem dX0_init_19 : decode cX0_init 19 = .ok (.putfield 15, 3) := by decide +kernel
theorem dX0_init_22 : decode cX0_init 22 = .ok (.return_, 1) := by decide +kernel
theorem dX0_at_0 : decode cX0_at 0 = .ok (.iload_n 0, 1) := by decide +kernel
theorem dX0_at_1 : decode cX0_at 1 = .ok (.iconst 3, 1) := by decide +kernel
theorem dX0_at_2 : decode cX0_at 2 = .ok (.imul, 1) := by decide +kernel
theorem dX0_at_3 : decode cX0_at 3 = .ok (.iload_n 1, 1) := by decide +kernel
theorem dX0_at_4 : decode cX0_at 4 = .ok (.iadd, 1) := by decide +kernel
theorem dX0_at_5 : decode cX0_at 5 = .ok (.ireturn, 1) := by decide +kernel
set_option maxRecDepth 20000 in
theorem ggX0_low_X0_at : GoodIn wsX0_low wsX0_at := goodIn_r _ [5] (by decide +kernel) (by decide +kernel)
set_option maxRecDepth 20000 in
theorem gX0_low_X0_at : GoodIn wsX0_low (va_wsS RX0 18 yX0_at wsX0_at) := goodIn_app (goodIn_of _ (by decide +kernel)) ggX0_low_X0_at
theorem dX0_low_0 : decode cX0_low 0 = .ok (.aload_n 0, 1) := by decide +kernel
theorem dX0_low_1 : decode cX0_low 1 = .ok (.getfield 9, 3) := by decide +kernel
theorem dX0_low_4 : decode cX0_low 4 = .ok (.iload_n 1, 1) := by decide +kernel
theorem dX0_low_5 : decode cX0_low 5 = .ok (.iload_n 2, 1) := by decide +kernel
theorem dX0_low_6 : decode cX0_low 6 = .ok (.invokestatic 18, 3) := by decide +kernel
theorem dX0_low_9 : decode cX0_low 9 = .ok (.iaload, 1) := by decide +kernel
theorem dX0_low_10 : decode cX0_low 10 = .ok (.ireturn, 1) := by decide +kernel
set_option maxRecDepth 20000 in
theorem ggX0_high_X0_at : GoodIn wsX0_high wsX0_at := goodIn_r _ [5] (by decide +kernel) (by decide +kernel)
set_option maxRecDepth 20000 in
theorem gX0_high_X0_at : GoodIn wsX0_high (va_wsS RX0 18 yX0_at wsX0_at) := goodIn_app (goodIn_of _ (by decide +kernel)) ggX0_high_X0_at
theorem dX0_high_0 : decode cX0_high 0 = .ok (.aload_n 0, 1) := by decide +kernel
theorem dX0_high_1 : decode cX0_high 1 = .ok (.getfield 15, 3) := by decide +kernel
theorem dX0_high_4 : decode cX0_high 4 = .ok (.iload_n 1, 1) := by decide +kernel
theorem dX0_high_5 : decode cX0_high 5 = .ok (.iload_n 2, 1) := by decide +kernel
theorem dX0_high_6 : decode cX0_high 6 = .ok (.invokestatic 18, 3) := by decide +kernel
theorem dX0_high_9 : decode cX0_high 9 = .ok (.iaload, 1) := by decide +kernel
theorem dX0_high_10 : decode cX0_high 10 = .ok (.ireturn, 1) := by decide +kernel
set_option maxRecDepth 20000 in
theorem ggX0_put_X0_at : GoodIn wsX0_put wsX0_at := goodIn_r _ [6] (by decide +kernel) (by decide +kernel)
set_option maxRecDepth 20000 in
theorem gX0_put_X0_at : GoodIn wsX0_put (va_wsS RX0 18 yX0_at wsX0_at) := goodIn_app (goodIn_of _ (by decide +kernel)) ggX0_put_X0_at
theorem dX0_put_0 : decode cX0_put 0 = .ok (.iload_n 1, 1) := by decide +kernel
theorem dX0_put_1 : decode cX0_put 1 = .ok (.iload_n 2, 1) := by decide +kernel
theorem dX0_put_2 : decode cX0_put 2 = .ok (.invokestatic 18, 3) := by decide +kernel
theorem dX0_put_5 : decode cX0_put 5 = .ok (.istore 5, 2) := by decide +kernel
theorem dX0_put_7 : decode cX0_put 7 = .ok (.aload_n 0, 1) := by decide +kernel
theorem dX0_put_8 : decode cX0_put 8 = .ok (.getfield 9, 3) := by decide +kernel
theorem dX0_put_11 : decode cX0_put 11 = .ok (.iload 5, 2) := by decide +kernel
theorem dX0_put_13 : decode cX0_put 13 = .ok (.iload_n 3, 1) := by decide +kernel
theorem dX0_put_14 : decode cX0_put 14 = .ok (.iastore, 1) := by decide +kernel
theorem dX0_put_15 : decode cX0_put 15 = .ok (.aload_n 0, 1) := by decide +kernel
theorem dX0_put_16 : decode cX0_put 16 = .ok (.getfield 15, 3) := by decide +kernel
theorem dX0_put_19 : decode cX0_put 19 = .ok (.iload 5, 2) := by decide +kernel
theorem dX0_put_21 : decode cX0_put 21 = .ok (.iload 4, 2) := by decide +kernel
theorem dX0_put_23 : decode cX0_put 23 = .ok (.iastore, 1) := by decide +kernel
theorem dX0_put_24 : decode cX0_put 24 = .ok (.return_, 1) := by decide +kernel
set_option maxRecDepth 20000 in
theorem ggX0_widen_X0_at : GoodIn wsX0_widen wsX0_at := goodIn_r _ [6] (by decide +kernel) (by decide +kernel)
set_option maxRecDepth 20000 in
theorem gX0_widen_X0_at : GoodIn wsX0_widen (va_wsS RX0 18 yX0_at wsX0_at) := goodIn_app (goodIn_of _ (by decide +kernel)) ggX0_widen_X0_at
theorem dX0_widen_0 : decode cX0_widen 0 = .ok (.iload_n 1, 1) := by decide +kernel
theorem dX0_widen_1 : decode cX0_widen 1 = .ok (.iload_n 2, 1) := by decide +kernel
theorem dX0_widen_2 : decode cX0_widen 2 = .ok (.invokestatic 18, 3) := by decide +kernel
theorem dX0_widen_5 : decode cX0_widen 5 = .ok (.istore 5, 2) := by decide +kernel
theorem dX0_widen_7 : decode cX0_widen 7 = .ok (.aload_n 0, 1) := by decide +kernel
theorem dX0_widen_8 : decode cX0_widen 8 = .ok (.getfield 9, 3) := by decide +kernel
theorem dX0_widen_11 : decode cX0_widen 11 = .ok (.iload 5, 2) := by decide +kernel
theorem dX0_widen_13 : decode cX0_widen 13 = .ok (.dup2, 1) := by decide +kernel
theorem dX0_widen_14 : decode cX0_widen 14 = .ok (.iaload, 1) := by decide +kernel
theorem dX0_widen_15 : decode cX0_widen 15 = .ok (.iload_n 3, 1) := by decide +kernel
theorem dX0_widen_16 : decode cX0_widen 16 = .ok (.iadd, 1) := by decide +kernel
theorem dX0_widen_17 : decode cX0_widen 17 = .ok (.iastore, 1) := by decide +kernel
theorem dX0_widen_18 : decode cX0_widen 18 = .ok (.aload_n 0, 1) := by decide +kernel
theorem dX0_widen_19 : decode cX0_widen 19 = .ok (.getfield 15, 3) := by decide +kernel
theorem dX0_widen_22 : decode cX0_widen 22 = .ok (.iload 5, 2) := by decide +kernel
theorem dX0_widen_24 : decode cX0_widen 24 = .ok (.dup2, 1) := by decide +kernel
theorem dX0_widen_25 : decode cX0_widen 25 = .ok (.iaload, 1) := by decide +kernel
theorem dX0_widen_26 : decode cX0_widen 26 = .ok (.iload 4, 2) := by decide +kernel
theorem dX0_widen_28 : decode cX0_widen 28 = .ok (.iadd, 1) := by decide +kernel
theorem dX0_widen_29 : decode cX0_widen 29 = .ok (.iastore, 1) := by decide +kernel
theorem dX0_widen_30 : decode cX0_widen 30 = .ok (.return_, 1) := by decide +kernel
set_option maxRecDepth 20000 in
theorem ggX0_cut_X0_at : GoodIn wsX0_cut wsX0_at := goodIn_r _ [13] (by decide +kernel) (by decide +kernel)
set_option maxRecDepth 20000 in
theorem gX0_cut_X0_at : GoodIn wsX0_cut (va_wsS RX0 18 yX0_at wsX0_at) := goodIn_app (goodIn_of _ (by decide +kernel)) ggX0_cut_X0_at
theorem dX0_cut_0 : decode cX0_cut 0 = .ok (.iload_n 1, 1) := by decide +kernel
theorem dX0_cut_1 : decode cX0_cut 1 = .ok (.iload_n 2, 1) := by decide +kernel
theorem dX0_cut_2 : decode cX0_cut 2 = .ok (.invokestatic 18, 3) := by decide +kernel
theorem dX0_cut_5 : decode cX0_cut 5 = .ok (.istore 5, 2) := by decide +kernel
theorem dX0_cut_7 : decode cX0_cut 7 = .ok (.aload_n 0, 1) := by decide +kernel
theorem dX0_cut_8 : decode cX0_cut 8 = .ok (.getfield 9, 3) := by decide +kernel
theorem dX0_cut_11 : decode cX0_cut 11 = .ok (.iload 5, 2) := by decide +kernel
theorem dX0_cut_13 : decode cX0_cut 13 = .ok (.aload_n 0, 1) := by decide +kernel
theorem dX0_cut_14 : decode cX0_cut 14 = .ok (.getfield 9, 3) := by decide +kernel
theorem dX0_cut_17 : decode cX0_cut 17 = .ok (.iload 5, 2) := by decide +kernel
theorem dX0_cut_19 : decode cX0_cut 19 = .ok (.iaload, 1) := by decide +kernel
theorem dX0_cut_20 : decode cX0_cut 20 = .ok (.iload_n 3, 1) := by decide +kernel
theorem dX0_cut_21 : decode cX0_cut 21 = .ok (.invokestatic 22, 3) := by decide +kernel
theorem dX0_cut_24 : decode cX0_cut 24 = .ok (.iastore, 1) := by decide +kernel
theorem dX0_cut_25 : decode cX0_cut 25 = .ok (.aload_n 0, 1) := by decide +kernel
theorem dX0_cut_26 : decode cX0_cut 26 = .ok (.getfield 15, 3) := by decide +kernel
theorem dX0_cut_29 : decode cX0_cut 29 = .ok (.iload 5, 2) := by decide +kernel
theorem dX0_cut_31 : decode cX0_cut 31 = .ok (.aload_n 0, 1) := by decide +kernel
theorem dX0_cut_32 : decode cX0_cut 32 = .ok (.getfield 15, 3) := by decide +kernel
theorem dX0_cut_35 : decode cX0_cut 35 = .ok (.iload 5, 2) := by decide +kernel
theorem dX0_cut_37 : decode cX0_cut 37 = .ok (.iaload, 1) := by decide +kernel
theorem dX0_cut_38 : decode cX0_cut 38 = .ok (.iload 4, 2) := by decide +kernel
theorem dX0_cut_40 : decode cX0_cut 40 = .ok (.invokestatic 27, 3) := by decide +kernel
theorem dX0_cut_43 : decode cX0_cut 43 = .ok (.iastore, 1) := by decide +kernel
theorem dX0_cut_44 : decode cX0_cut 44 = .ok (.return_, 1) := by decide +kernel
set_option maxRecDepth 20000 in
theorem ggX0_putSum_X0_low : GoodIn wsX0_putSum wsX0_low := goodIn_r _ [5, 6, 7, 8, 4, 9, 19, 20] (by decide +kernel) (by decide +kernel)
set_option maxRecDepth 20000 in
theorem gX0_putSum_X0_low : GoodIn wsX0_putSum (wsV RX0 30 RX0 yX0_low wsX0_low) := goodIn_app (goodIn_of _ (by decide +kernel)) ggX0_putSum_X0_low
set_option maxRecDepth 20000 in
theorem ggX0_putSum_X0_high : GoodIn wsX0_putSum wsX0_high := goodIn_r _ [13, 14, 7, 8, 4, 9, 19, 20] (by decide +kernel) (by decide +kernel)
set_option maxRecDepth 20000 in
theorem gX0_putSum_X0_high : GoodIn wsX0_putSum (wsV RX0 33 RX0 yX0_high wsX0_high) := goodIn_app (goodIn_of _ (by decide +kernel)) ggX0_putSum_X0_high
set_option maxRecDepth 20000 in
theorem ggX0_putSum_X0_put : GoodIn wsX0_putSum wsX0_put := goodIn_r _ [18, 6, 14, 7, 8, 4, 9, 19, 20] (by decide +kernel) (by decide +kernel)
set_option maxRecDepth 20000 in
theorem gX0_putSum_X0_put : GoodIn wsX0_putSum (wsV RX0 36 RX0 yX0_put wsX0_put) := goodIn_app (goodIn_of _ (by decide +kernel)) ggX0_putSum_X0_put
theorem dX0_putSum_0 : decode cX0_putSum 0 = .ok (.iconst 0, 1) := by decide +kernel
theorem dX0_putSum_1 : decode cX0_putSum 1 = .ok (.istore 4, 2) := by decide +kernel
theorem dX0_putSum_3 : decode cX0_putSum 3 = .ok (.iload 4, 2) := by decide +kernel
theorem dX0_putSum_5 : decode cX0_putSum 5 = .ok (.iconst 3, 1) := by decide +kernel
theorem dX0_putSum_6 : decode cX0_putSum 6 = .ok (.if_icmp .ge 46, 3) := by decide +kernel
theorem dX0_putSum_9 : decode cX0_putSum 9 = .ok (.aload_n 0, 1) := by decide +kernel
theorem dX0_putSum_10 : decode cX0_putSum 10 = .ok (.iload_n 1, 1) := by decide +kernel
theorem dX0_putSum_11 : decode cX0_putSum 11 = .ok (.iload 4, 2) := by decide +kernel
theorem dX0_putSum_13 : decode cX0_putSum 13 = .ok (.aload_n 0, 1) := by decide +kernel
theorem dX0_putSum_14 : decode cX0_putSum 14 = .ok (.iload_n 2, 1) := by decide +kernel
theorem dX0_putSum_15 : decode cX0_putSum 15 = .ok (.iload 4, 2) := by decide +kernel
theorem dX0_putSum_17 : decode cX0_putSum 17 = .ok (.invokevirtual 30, 3) := by decide +kernel
theorem dX0_putSum_20 : decode cX0_putSum 20 = .ok (.aload_n 0, 1) := by decide +kernel
theorem dX0_putSum_21 : decode cX0_putSum 21 = .ok (.iload_n 3, 1) := by decide +kernel
theorem dX0_putSum_22 : decode cX0_putSum 22 = .ok (.iload 4, 2) := by decide +kernel
theorem dX0_putSum_24 : decode cX0_putSum 24 = .ok (.invokevirtual 30, 3) := by decide +kernel
theorem dX0_putSum_27 : decode cX0_putSum 27 = .ok (.iadd, 1) := by decide +kernel
theorem dX0_putSum_28 : decode cX0_putSum 28 = .ok (.aload_n 0, 1) := by decide +kernel
theorem dX0_putSum_29 : decode cX0_putSum 29 = .ok (.iload_n 2, 1) := by decide +kernel
theorem dX0_putSum_30 : decode cX0_putSum 30 = .ok (.iload 4, 2) := by decide +kernel
theorem dX0_putSum_32 : decode cX0_putSum 32 = .ok (.invokevirtual 33, 3) := by decide +kernel
theorem dX0_putSum_35 : decode cX0_putSum 35 = .ok (.aload_n 0, 1) := by decide +kernel
theorem dX0_putSum_36 : decode cX0_putSum 36 = .ok (.iload_n 3, 1) := by decide +kernel
theorem dX0_putSum_37 : decode cX0_putSum 37 = .ok (.iload 4, 2) := by decide +kernel
theorem dX0_putSum_39 : decode cX0_putSum 39 = .ok (.invokevirtual 33, 3) := by decide +kernel
theorem dX0_putSum_42 : decode cX0_putSum 42 = .ok (.iadd, 1) := by decide +kernel
theorem dX0_putSum_43 : decode cX0_putSum 43 = .ok (.invokevirtual 36, 3) := by decide +kernel
theorem dX0_putSum_46 : decode cX0_putSum 46 = .ok (.iinc 4 1, 3) := by decide +kernel
theorem dX0_putSum_49 : decode cX0_putSum 49 = .ok (.goto (-46), 3) := by decide +kernel
theorem dX0_putSum_52 : decode cX0_putSum 52 = .ok (.return_, 1) := by decide +kernel
set_option maxRecDepth 20000 in
theorem ggX0_cutByDifference_X0_low : GoodIn wsX0_cutByDifference wsX0_low := goodIn_r _ [5, 6, 7, 8, 4, 9, 26, 27] (by decide +kernel) (by decide +kernel)
set_option maxRecDepth 20000 in
theorem gX0_cutByDifference_X0_low : GoodIn wsX0_cutByDifference (wsV RX0 30 RX0 yX0_low wsX0_low) := goodIn_app (goodIn_of _ (by decide +kernel)) ggX0_cutByDifference_X0_low
set_option maxRecDepth 20000 in
theorem ggX0_cutByDifference_X0_high : GoodIn wsX0_cutByDifference wsX0_high := goodIn_r _ [13, 14, 7, 8, 4, 9, 26, 27] (by decide +kernel) (by decide +kernel)
set_option maxRecDepth 20000 in
theorem gX0_cutByDifference_X0_high : GoodIn wsX0_cutByDifference (wsV RX0 33 RX0 yX0_high wsX0_high) := goodIn_app (goodIn_of _ (by decide +kernel)) ggX0_cutByDifference_X0_high
set_option maxRecDepth 20000 in
theorem ggX0_cutByDifference_X0_cut : GoodIn wsX0_cutByDifference wsX0_cut := goodIn_r _ [18, 6, 19, 20, 21, 22, 14, 23, 24, 25, 7, 8, 4, 9, 26, 27] (by decide +kernel) (by decide +kernel)
set_option maxRecDepth 20000 in
theorem gX0_cutByDifference_X0_cut : GoodIn wsX0_cutByDifference (wsV RX0 40 RX0 yX0_cut wsX0_cut) := goodIn_app (goodIn_of _ (by decide +kernel)) ggX0_cutByDifference_X0_cut
theorem dX0_cutByDifference_0 : decode cX0_cutByDifference 0 = .ok (.iconst 0, 1) := by decide +kernel
theorem dX0_cutByDifference_1 : decode cX0_cutByDifference 1 = .ok (.istore 4, 2) := by decide +kernel
theorem dX0_cutByDifference_3 : decode cX0_cutByDifference 3 = .ok (.iload 4, 2) := by decide +kernel
theorem dX0_cutByDifference_5 : decode cX0_cutByDifference 5 = .ok (.iconst 3, 1) := by decide +kernel
theorem dX0_cutByDifference_6 : decode cX0_cutByDifference 6 = .ok (.if_icmp .ge 46, 3) := by decide +kernel
theorem dX0_cutByDifference_9 : decode cX0_cutByDifference 9 = .ok (.aload_n 0, 1) := by decide +kernel
theorem dX0_cutByDifference_10 : decode cX0_cutByDifference 10 = .ok (.iload_n 1, 1) := by decide +kernel
theorem dX0_cutByDifference_11 : decode cX0_cutByDifference 11 = .ok (.iload 4, 2) := by decide +kernel
theorem dX0_cutByDifference_13 : decode cX0_cutByDifference 13 = .ok (.aload_n 0, 1) := by decide +kernel
theorem dX0_cutByDifference_14 : decode cX0_cutByDifference 14 = .ok (.iload_n 2, 1) := by decide +kernel
theorem dX0_cutByDifference_15 : decode cX0_cutByDifference 15 = .ok (.iload 4, 2) := by decide +kernel
theorem dX0_cutByDifference_17 : decode cX0_cutByDifference 17 = .ok (.invokevirtual 30, 3) := by decide +kernel
theorem dX0_cutByDifference_20 : decode cX0_cutByDifference 20 = .ok (.aload_n 0, 1) := by decide +kernel
theorem dX0_cutByDifference_21 : decode cX0_cutByDifference 21 = .ok (.iload_n 3, 1) := by decide +kernel
theorem dX0_cutByDifference_22 : decode cX0_cutByDifference 22 = .ok (.iload 4, 2) := by decide +kernel
theorem dX0_cutByDifference_24 : decode cX0_cutByDifference 24 = .ok (.invokevirtual 33, 3) := by decide +kernel
theorem dX0_cutByDifference_27 : decode cX0_cutByDifference 27 = .ok (.isub, 1) := by decide +kernel
theorem dX0_cutByDifference_28 : decode cX0_cutByDifference 28 = .ok (.aload_n 0, 1) := by decide +kernel
theorem dX0_cutByDifference_29 : decode cX0_cutByDifference 29 = .ok (.iload_n 2, 1) := by decide +kernel
theorem dX0_cutByDifference_30 : decode cX0_cutByDifference 30 = .ok (.iload 4, 2) := by decide +kernel
theorem dX0_cutByDifference_32 : decode cX0_cutByDifference 32 = .ok (.invokevirtual 33, 3) := by decide +kernel
theorem dX0_cutByDifference_35 : decode cX0_cutByDifference 35 = .ok (.aload_n 0, 1) := by decide +kernel
theorem dX0_cutByDifference_36 : decode cX0_cutByDifference 36 = .ok (.iload_n 3, 1) := by decide +kernel
theorem dX0_cutByDifference_37 : decode cX0_cutByDifference 37 = .ok (.iload 4, 2) := by decide +kernel
theorem dX0_cutByDifference_39 : decode cX0_cutByDifference 39 = .ok (.invokevirtual 30, 3) := by decide +kernel
theorem dX0_cutByDifference_42 : decode cX0_cutByDifference 42 = .ok (.isub, 1) := by decide +kernel
theorem dX0_cutByDifference_43 : decode cX0_cutByDifference 43 = .ok (.invokevirtual 40, 3) := by decide +kernel
theorem dX0_cutByDifference_46 : decode cX0_cutByDifference 46 = .ok (.iinc 4 1, 3) := by decide +kernel
theorem dX0_cutByDifference_49 : decode cX0_cutByDifference 49 = .ok (.goto (-46), 3) := by decide +kernel
theorem dX0_cutByDifference_52 : decode cX0_cutByDifference 52 = .ok (.return_, 1) := by decide +kernel
set_option maxRecDepth 20000 in
theorem ggX0_tighten_X0_low : GoodIn wsX0_tighten wsX0_low := goodIn_r _ [5, 6, 7, 8, 4, 9, 30, 31] (by decide +kernel) (by decide +kernel)
set_option maxRecDepth 20000 in
theorem gX0_tighten_X0_low : GoodIn wsX0_tighten (wsV RX0 30 RX0 yX0_low wsX0_low) := goodIn_app (goodIn_of _ (by decide +kernel)) ggX0_tighten_X0_low
set_option maxRecDepth 20000 in
theorem ggX0_tighten_X0_high : GoodIn wsX0_tighten wsX0_high := goodIn_r _ [13, 14, 7, 8, 4, 9, 30, 31] (by decide +kernel) (by decide +kernel)
set_option maxRecDepth 20000 in
theorem gX0_tighten_X0_high : GoodIn wsX0_tighten (wsV RX0 33 RX0 yX0_high wsX0_high) := goodIn_app (goodIn_of _ (by decide +kernel)) ggX0_tighten_X0_high
set_option maxRecDepth 20000 in
theorem ggX0_tighten_X0_cut : GoodIn wsX0_tighten wsX0_cut := goodIn_r _ [18, 6, 19, 20, 21, 22, 14, 23, 24, 25, 7, 8, 4, 9, 30, 31] (by decide +kernel) (by decide +kernel)
set_option maxRecDepth 20000 in
theorem gX0_tighten_X0_cut : GoodIn wsX0_tighten (wsV RX0 40 RX0 yX0_cut wsX0_cut) := goodIn_app (goodIn_of _ (by decide +kernel)) ggX0_tighten_X0_cut
set_option maxRecDepth 20000 in
theorem ggX0_tighten_X0_isSpan : GoodIn wsX0_tighten wsX0_isSpan := goodIn_r _ [29, 1, 2, 3, 4, 5, 6, 7, 8, 9, 10, 11, 12, 13, 14, 30, 31] (by decide +kernel) (by decide +kernel)
set_option maxRecDepth 20000 in
theorem gX0_tighten_X0_isSpan : GoodIn wsX0_tighten (wsV RX0 43 RX0 yX0_isSpan wsX0_isSpan) := goodIn_app (goodIn_of _ (by decide +kernel)) ggX0_tighten_X0_isSpan
theorem dX0_tighten_0 : decode cX0_tighten 0 = .ok (.aload_n 0, 1) := by decide +kernel
theorem dX0_tighten_1 : decode cX0_tighten 1 = .ok (.iload_n 1, 1) := by decide +kernel
theorem dX0_tighten_2 : decode cX0_tighten 2 = .ok (.iconst 0, 1) := by decide +kernel
theorem dX0_tighten_3 : decode cX0_tighten 3 = .ok (.invokevirtual 30, 3) := by decide +kernel
theorem dX0_tighten_6 : decode cX0_tighten 6 = .ok (.istore_n 2, 1) := by decide +kernel
theorem dX0_tighten_7 : decode cX0_tighten 7 = .ok (.aload_n 0, 1) := by decide +kernel
theorem dX0_tighten_8 : decode cX0_tighten 8 = .ok (.iload_n 1, 1) := by decide +kernel
theorem dX0_tighten_9 : decode cX0_tighten 9 = .ok (.iconst 0, 1) := by decide +kernel
theorem dX0_tighten_10 : decode cX0_tighten 10 = .ok (.invokevirtual 33, 3) := by decide +kernel
theorem dX0_tighten_13 : decode cX0_tighten 13 = .ok (.istore_n 3, 1) := by decide +kernel
theorem dX0_tighten_14 : decode cX0_tighten 14 = .ok (.aload_n 0, 1) := by decide +kernel
theorem dX0_tighten_15 : decode cX0_tighten 15 = .ok (.iload_n 1, 1) := by decide +kernel
theorem dX0_tighten_16 : decode cX0_tighten 16 = .ok (.iconst 1, 1) := by decide +kernel
theorem dX0_tighten_17 : decode cX0_tighten 17 = .ok (.invokevirtual 30, 3) := by decide +kernel
theorem dX0_tighten_20 : decode cX0_tighten 20 = .ok (.istore 4, 2) := by decide +kernel
theorem dX0_tighten_22 : decode cX0_tighten 22 = .ok (.aload_n 0, 1) := by decide +kernel
theorem dX0_tighten_23 : decode cX0_tighten 23 = .ok (.iload_n 1, 1) := by decide +kernel
theorem dX0_tighten_24 : decode cX0_tighten 24 = .ok (.iconst 1, 1) := by decide +kernel
theorem dX0_tighten_25 : decode cX0_tighten 25 = .ok (.invokevirtual 33, 3) := by decide +kernel
theorem dX0_tighten_28 : decode cX0_tighten 28 = .ok (.istore 5, 2) := by decide +kernel
theorem dX0_tighten_30 : decode cX0_tighten 30 = .ok (.aload_n 0, 1) := by decide +kernel
theorem dX0_tighten_31 : decode cX0_tighten 31 = .ok (.iload_n 1, 1) := by decide +kernel
theorem dX0_tighten_32 : decode cX0_tighten 32 = .ok (.iconst 2, 1) := by decide +kernel
theorem dX0_tighten_33 : decode cX0_tighten 33 = .ok (.invokevirtual 30, 3) := by decide +kernel
theorem dX0_tighten_36 : decode cX0_tighten 36 = .ok (.istore 6, 2) := by decide +kernel
theorem dX0_tighten_38 : decode cX0_tighten 38 = .ok (.aload_n 0, 1) := by decide +kernel
theorem dX0_tighten_39 : decode cX0_tighten 39 = .ok (.iload_n 1, 1) := by decide +kernel
theorem dX0_tighten_40 : decode cX0_tighten 40 = .ok (.iconst 2, 1) := by decide +kernel
theorem dX0_tighten_41 : decode cX0_tighten 41 = .ok (.invokevirtual 33, 3) := by decide +kernel
theorem dX0_tighten_44 : decode cX0_tighten 44 = .ok (.istore 7, 2) := by decide +kernel
theorem dX0_tighten_46 : decode cX0_tighten 46 = .ok (.aload_n 0, 1) := by decide +kernel
theorem dX0_tighten_47 : decode cX0_tighten 47 = .ok (.iload_n 1, 1) := by decide +kernel
theorem dX0_tighten_48 : decode cX0_tighten 48 = .ok (.iconst 0, 1) := by decide +kernel
theorem dX0_tighten_49 : decode cX0_tighten 49 = .ok (.iload 6, 2) := by decide +kernel
theorem dX0_tighten_51 : decode cX0_tighten 51 = .ok (.iload 5, 2) := by decide +kernel
theorem dX0_tighten_53 : decode cX0_tighten 53 = .ok (.isub, 1) := by decide +kernel
theorem dX0_tighten_54 : decode cX0_tighten 54 = .ok (.iload 7, 2) := by decide +kernel
theorem dX0_tighten_56 : decode cX0_tighten 56 = .ok (.iload 4, 2) := by decide +kernel
theorem dX0_tighten_58 : decode cX0_tighten 58 = .ok (.isub, 1) := by decide +kernel
theorem dX0_tighten_59 : decode cX0_tighten 59 = .ok (.invokevirtual 40, 3) := by decide +kernel
theorem dX0_tighten_62 : decode cX0_tighten 62 = .ok (.aload_n 0, 1) := by decide +kernel
theorem dX0_tighten_63 : decode cX0_tighten 63 = .ok (.iload_n 1, 1) := by decide +kernel
theorem dX0_tighten_64 : decode cX0_tighten 64 = .ok (.iconst 1, 1) := by decide +kernel
theorem dX0_tighten_65 : decode cX0_tighten 65 = .ok (.iload 6, 2) := by decide +kernel
theorem dX0_tighten_67 : decode cX0_tighten 67 = .ok (.iload_n 3, 1) := by decide +kernel
theorem dX0_tighten_68 : decode cX0_tighten 68 = .ok (.isub, 1) := by decide +kernel
theorem dX0_tighten_69 : decode cX0_tighten 69 = .ok (.iload 7, 2) := by decide +kernel
theorem dX0_tighten_71 : decode cX0_tighten 71 = .ok (.iload_n 2, 1) := by decide +kernel
theorem dX0_tighten_72 : decode cX0_tighten 72 = .ok (.isub, 1) := by decide +kernel
theorem dX0_tighten_73 : decode cX0_tighten 73 = .ok (.invokevirtual 40, 3) := by decide +kernel
theorem dX0_tighten_76 : decode cX0_tighten 76 = .ok (.aload_n 0, 1) := by decide +kernel
theorem dX0_tighten_77 : decode cX0_tighten 77 = .ok (.iload_n 1, 1) := by decide +kernel
theorem dX0_tighten_78 : decode cX0_tighten 78 = .ok (.iconst 2, 1) := by decide +kernel
theorem dX0_tighten_79 : decode cX0_tighten 79 = .ok (.iload_n 2, 1) := by decide +kernel
theorem dX0_tighten_80 : decode cX0_tighten 80 = .ok (.iload 4, 2) := by decide +kernel
theorem dX0_tighten_82 : decode cX0_tighten 82 = .ok (.iadd, 1) := by decide +kernel
theorem dX0_tighten_83 : decode cX0_tighten 83 = .ok (.iload_n 3, 1) := by decide +kernel
theorem dX0_tighten_84 : decode cX0_tighten 84 = .ok (.iload 5, 2) := by decide +kernel
theorem dX0_tighten_86 : decode cX0_tighten 86 = .ok (.iadd, 1) := by decide +kernel
theorem dX0_tighten_87 : decode cX0_tighten 87 = .ok (.invokevirtual 40, 3) := by decide +kernel
theorem dX0_tighten_90 : decode cX0_tighten 90 = .ok (.aload_n 0, 1) := by decide +kernel
theorem dX0_tighten_91 : decode cX0_tighten 91 = .ok (.iload_n 1, 1) := by decide +kernel
theorem dX0_tighten_92 : decode cX0_tighten 92 = .ok (.iconst 0, 1) := by decide +kernel
theorem dX0_tighten_93 : decode cX0_tighten 93 = .ok (.invokevirtual 43, 3) := by decide +kernel
theorem dX0_tighten_96 : decode cX0_tighten 96 = .ok (.ifCond .eq 25, 3) := by decide +kernel
theorem dX0_tighten_99 : decode cX0_tighten 99 = .ok (.aload_n 0, 1) := by decide +kernel
theorem dX0_tighten_100 : decode cX0_tighten 100 = .ok (.iload_n 1, 1) := by decide +kernel
theorem dX0_tighten_101 : decode cX0_tighten 101 = .ok (.iconst 1, 1) := by decide +kernel
theorem dX0_tighten_102 : decode cX0_tighten 102 = .ok (.invokevirtual 43, 3) := by decide +kernel
theorem dX0_tighten_105 : decode cX0_tighten 105 = .ok (.ifCond .eq 16, 3) := by decide +kernel
theorem dX0_tighten_108 : decode cX0_tighten 108 = .ok (.aload_n 0, 1) := by decide +kernel
theorem dX0_tighten_109 : decode cX0_tighten 109 = .ok (.iload_n 1, 1) := by decide +kernel
theorem dX0_tighten_110 : decode cX0_tighten 110 = .ok (.iconst 2, 1) := by decide +kernel
theorem dX0_tighten_111 : decode cX0_tighten 111 = .ok (.invokevirtual 43, 3) := by decide +kernel
theorem dX0_tighten_114 : decode cX0_tighten 114 = .ok (.ifCond .eq 7, 3) := by decide +kernel
theorem dX0_tighten_117 : decode cX0_tighten 117 = .ok (.iconst 1, 1) := by decide +kernel
theorem dX0_tighten_118 : decode cX0_tighten 118 = .ok (.goto 4, 3) := by decide +kernel
theorem dX0_tighten_121 : decode cX0_tighten 121 = .ok (.iconst 0, 1) := by decide +kernel
theorem dX0_tighten_122 : decode cX0_tighten 122 = .ok (.ireturn, 1) := by decide +kernel
set_option maxRecDepth 20000 in
theorem ggX0_isSpan_X0_low : GoodIn wsX0_isSpan wsX0_low := goodIn_r _ [5, 6, 7, 8, 4, 9, 15, 16] (by decide +kernel) (by decide +kernel)
set_option maxRecDepth 20000 in
theorem gX0_isSpan_X0_low : GoodIn wsX0_isSpan (wsV RX0 30 RX0 yX0_low wsX0_low) := goodIn_app (goodIn_of _ (by decide +kernel)) ggX0_isSpan_X0_low
set_option maxRecDepth 20000 in
theorem ggX0_isSpan_X0_high : GoodIn wsX0_isSpan wsX0_high := goodIn_r _ [13, 14, 7, 8, 4, 9, 15, 16] (by decide +kernel) (by decide +kernel)
set_option maxRecDepth 20000 in
theorem gX0_isSpan_X0_high : GoodIn wsX0_isSpan (wsV RX0 33 RX0 yX0_high wsX0_high) := goodIn_app (goodIn_of _ (by decide +kernel)) ggX0_isSpan_X0_high
theorem dX0_isSpan_0 : decode cX0_isSpan 0 = .ok (.aload_n 0, 1) := by decide +kernel
theorem dX0_isSpan_1 : decode cX0_isSpan 1 = .ok (.iload_n 1, 1) := by decide +kernel
theorem dX0_isSpan_2 : decode cX0_isSpan 2 = .ok (.iload_n 2, 1) := by decide +kernel
theorem dX0_isSpan_3 : decode cX0_isSpan 3 = .ok (.invokevirtual 30, 3) := by decide +kernel
theorem dX0_isSpan_6 : decode cX0_isSpan 6 = .ok (.aload_n 0, 1) := by decide +kernel
theorem dX0_isSpan_7 : decode cX0_isSpan 7 = .ok (.iload_n 1, 1) := by decide +kernel
theorem dX0_isSpan_8 : decode cX0_isSpan 8 = .ok (.iload_n 2, 1) := by decide +kernel
theorem dX0_isSpan_9 : decode cX0_isSpan 9 = .ok (.invokevirtual 33, 3) := by decide +kernel
theorem dX0_isSpan_12 : decode cX0_isSpan 12 = .ok (.if_icmp .gt 7, 3) := by decide +kernel
theorem dX0_isSpan_15 : decode cX0_isSpan 15 = .ok (.iconst 1, 1) := by decide +kernel
theorem dX0_isSpan_16 : decode cX0_isSpan 16 = .ok (.goto 4, 3) := by decide +kernel
theorem dX0_isSpan_19 : decode cX0_isSpan 19 = .ok (.iconst 0, 1) := by decide +kernel
theorem dX0_isSpan_20 : decode cX0_isSpan 20 = .ok (.ireturn, 1) := by decide +kernel
set_option maxRecDepth 20000 in
theorem ggX1_init_X0_init : GoodIn wsX1_init wsX0_init := goodIn_r _ [23, 24, 2, 3, 4, 25, 26, 55, 56] (by decide +kernel) (by decide +kernel)
set_option maxRecDepth 20000 in
theorem gX1_init_X0_init : GoodIn wsX1_init (wsX0_init) := ggX1_init_X0_init
set_option maxRecDepth 20000 in
theorem ggX1_init_X1_beginDay : GoodIn wsX1_init wsX1_beginDay := goodIn_r _ [31, 32, 33, 34, 9, 10, 11, 12, 35, 36, 37, 38, 39, 40, 41, 42, 43, 44, 45, 46, 47, 48, 49, 50, 51, 52, 53, 54] (by decide +kernel) (by decide +kernel)
set_option maxRecDepth 20000 in
theorem gX1_init_X1_beginDay : GoodIn wsX1_init (wsV RX1 53 RX1 yX1_beginDay wsX1_beginDay) := goodIn_app (goodIn_of _ (by decide +kernel)) ggX1_init_X1_beginDay
theorem dX1_init_0 : decode cX1_init 0 = .ok (.aload_n 0, 1) := by decide +kernel
theorem dX1_init_1 : decode cX1_init 1 = .ok (.invokespecial 3, 3) := by decide +kernel
theorem dX1_init_4 : decode cX1_init 4 = .ok (.aload_n 0, 1) := by decide +kernel
theorem dX1_init_5 : decode cX1_init 5 = .ok (.bipush 6, 2) := by decide +kernel
theorem dX1_init_7 : decode cX1_init 7 = .ok (.newarray .int, 2) := by decide +kernel
theorem dX1_init_9 : decode cX1_init 9 = .ok (.putfield 9, 3) := by decide +kernel
theorem dX1_init_12 : decode cX1_init 12 = .ok (.aload_n 0, 1) := by decide +kernel
theorem dX1_init_13 : decode cX1_init 13 = .ok (.bipush 6, 2) := by decide +kernel
theorem dX1_init_15 : decode cX1_init 15 = .ok (.newarray .int, 2) := by decide +kernel
theorem dX1_init_17 : decode cX1_init 17 = .ok (.putfield 13, 3) := by decide +kernel
theorem dX1_init_20 : decode cX1_init 20 = .ok (.aload_n 0, 1) := by decide +kernel
theorem dX1_init_21 : decode cX1_init 21 = .ok (.bipush 6, 2) := by decide +kernel
theorem dX1_init_23 : decode cX1_init 23 = .ok (.newarray .int, 2) := by decide +kernel
theorem dX1_init_25 : decode cX1_init 25 = .ok (.putfield 16, 3) := by decide +kernel
theorem dX1_init_28 : decode cX1_init 28 = .ok (.aload_n 0, 1) := by decide +kernel
theorem dX1_init_29 : decode cX1_init 29 = .ok (.bipush 6, 2) := by decide +kernel
theorem dX1_init_31 : decode cX1_init 31 = .ok (.newarray .int, 2) := by decide +kernel
theorem dX1_init_33 : decode cX1_init 33 = .ok (.putfield 19, 3) := by decide +kernel
theorem dX1_init_36 : decode cX1_init 36 = .ok (.aload_n 0, 1) := by decide +kernel
theorem dX1_init_37 : decode cX1_init 37 = .ok (.sipush 360, 3) := by decide +kernel
theorem dX1_init_40 : decode cX1_init 40 = .ok (.newarray .int, 2) := by decide +kernel
theorem dX1_init_42 : decode cX1_init 42 = .ok (.putfield 22, 3) := by decide +kernel
theorem dX1_init_45 : decode cX1_init 45 = .ok (.aload_n 0, 1) := by decide +kernel
theorem dX1_init_46 : decode cX1_init 46 = .ok (.sipush 360, 3) := by decide +kernel
theorem dX1_init_49 : decode cX1_init 49 = .ok (.newarray .int, 2) := by decide +kernel
theorem dX1_init_51 : decode cX1_init 51 = .ok (.putfield 25, 3) := by decide +kernel
theorem dX1_init_54 : decode cX1_init 54 = .ok (.aload_n 0, 1) := by decide +kernel
theorem dX1_init_55 : decode cX1_init 55 = .ok (.iconst 2, 1) := by decide +kernel
theorem dX1_init_56 : decode cX1_init 56 = .ok (.newarray .int, 2) := by decide +kernel
theorem dX1_init_58 : decode cX1_init 58 = .ok (.putfield 28, 3) := by decide +kernel
theorem dX1_init_61 : decode cX1_init 61 = .ok (.aload_n 0, 1) := by decide +kernel
theorem dX1_init_62 : decode cX1_init 62 = .ok (.iconst 2, 1) := by decide +kernel
theorem dX1_init_63 : decode cX1_init 63 = .ok (.newarray .int, 2) := by decide +kernel
theorem dX1_init_65 : decode cX1_init 65 = .ok (.putfield 31, 3) := by decide +kernel
theorem dX1_init_68 : decode cX1_init 68 = .ok (.aload_n 0, 1) := by decide +kernel
theorem dX1_init_69 : decode cX1_init 69 = .ok (.bipush 20, 2) := by decide +kernel
theorem dX1_init_71 : decode cX1_init 71 = .ok (.newarray .int, 2) := by decide +kernel
theorem dX1_init_73 : decode cX1_init 73 = .ok (.putfield 34, 3) := by decide +kernel
theorem dX1_init_76 : decode cX1_init 76 = .ok (.aload_n 0, 1) := by decide +kernel
theorem dX1_init_77 : decode cX1_init 77 = .ok (.bipush 20, 2) := by decide +kernel
theorem dX1_init_79 : decode cX1_init 79 = .ok (.newarray .int, 2) := by decide +kernel
theorem dX1_init_81 : decode cX1_init 81 = .ok (.putfield 37, 3) := by decide +kernel
theorem dX1_init_84 : decode cX1_init 84 = .ok (.aload_n 0, 1) := by decide +kernel
theorem dX1_init_85 : decode cX1_init 85 = .ok (.bipush 20, 2) := by decide +kernel
theorem dX1_init_87 : decode cX1_init 87 = .ok (.newarray .int, 2) := by decide +kernel
theorem dX1_init_89 : decode cX1_init 89 = .ok (.putfield 40, 3) := by decide +kernel
theorem dX1_init_92 : decode cX1_init 92 = .ok (.aload_n 0, 1) := by decide +kernel
theorem dX1_init_93 : decode cX1_init 93 = .ok (.bipush 20, 2) := by decide +kernel
theorem dX1_init_95 : decode cX1_init 95 = .ok (.newarray .int, 2) := by decide +kernel
theorem dX1_init_97 : decode cX1_init 97 = .ok (.putfield 43, 3) := by decide +kernel
theorem dX1_init_100 : decode cX1_init 100 = .ok (.aload_n 0, 1) := by decide +kernel
theorem dX1_init_101 : decode cX1_init 101 = .ok (.new 46, 3) := by decide +kernel
theorem dX1_init_104 : decode cX1_init 104 = .ok (.dup, 1) := by decide +kernel
theorem dX1_init_105 : decode cX1_init 105 = .ok (.invokespecial 48, 3) := by decide +kernel
theorem dX1_init_108 : decode cX1_init 108 = .ok (.putfield 49, 3) := by decide +kernel
theorem dX1_init_111 : decode cX1_init 111 = .ok (.aload_n 0, 1) := by decide +kernel
theorem dX1_init_112 : decode cX1_init 112 = .ok (.iconst 1, 1) := by decide +kernel
theorem dX1_init_113 : decode cX1_init 113 = .ok (.invokevirtual 53, 3) := by decide +kernel
theorem dX1_init_116 : decode cX1_init 116 = .ok (.return_, 1) := by decide +kernel
set_option maxRecDepth 20000 in
theorem ggX1_day_X1_within : GoodIn wsX1_day wsX1_within := goodIn_r _ [4] (by decide +kernel) (by decide +kernel)
set_option maxRecDepth 20000 in
theorem gX1_day_X1_within : GoodIn wsX1_day (va_wsS RX1 57 yX1_within wsX1_within) := goodIn_app (goodIn_of _ (by decide +kernel)) ggX1_day_X1_within
set_option maxRecDepth 20000 in
theorem ggX1_day_X1_beginDay : GoodIn wsX1_day wsX1_beginDay := goodIn_r _ [8, 9, 10, 11, 12, 13, 14, 15, 16, 17, 18, 19, 20, 21, 22, 23, 24, 25, 26, 27, 28, 29, 30, 31, 32, 33, 34, 35] (by decide +kernel) (by decide +kernel)
set_option maxRecDepth 20000 in
theorem gX1_day_X1_beginDay : GoodIn wsX1_day (wsV RX1 53 RX1 yX1_beginDay wsX1_beginDay) := goodIn_app (goodIn_of _ (by decide +kernel)) ggX1_day_X1_beginDay
theorem dX1_day_0 : decode cX1_day 0 = .ok (.iload_n 1, 1) := by decide +kernel
theorem dX1_day_1 : decode cX1_day 1 = .ok (.iconst 1, 1) := by decide +kernel
theorem dX1_day_2 : decode cX1_day 2 = .ok (.bipush 60, 2) := by decide +kernel
theorem dX1_day_4 : decode cX1_day 4 = .ok (.invokestatic 57, 3) := by decide +kernel
theorem dX1_day_7 : decode cX1_day 7 = .ok (.ifCond .ne 5, 3) := by decide +kernel
theorem dX1_day_10 : decode cX1_day 10 = .ok (.iconst 0, 1) := by decide +kernel
theorem dX1_day_11 : decode cX1_day 11 = .ok (.ireturn, 1) := by decide +kernel
theorem dX1_day_12 : decode cX1_day 12 = .ok (.aload_n 0, 1) := by decide +kernel
theorem dX1_day_13 : decode cX1_day 13 = .ok (.iload_n 1, 1) := by decide +kernel
theorem dX1_day_14 : decode cX1_day 14 = .ok (.invokevirtual 53, 3) := by decide +kernel
theorem dX1_day_17 : decode cX1_day 17 = .ok (.iconst 1, 1) := by decide +kernel
theorem dX1_day_18 : decode cX1_day 18 = .ok (.ireturn, 1) := by decide +kernel
set_option maxRecDepth 20000 in
theorem ggX1_door_X1_within : GoodIn wsX1_door wsX1_within := goodIn_r _ [9] (by decide +kernel) (by decide +kernel)
set_option maxRecDepth 20000 in
theorem gX1_door_X1_within : GoodIn wsX1_door (va_wsS RX1 57 yX1_within wsX1_within) := goodIn_app (goodIn_of _ (by decide +kernel)) ggX1_door_X1_within
theorem dX1_door_0 : decode cX1_door 0 = .ok (.iload_n 1, 1) := by decide +kernel
theorem dX1_door_1 : decode cX1_door 1 = .ok (.iconst 0, 1) := by decide +kernel
theorem dX1_door_2 : decode cX1_door 2 = .ok (.iconst 2, 1) := by decide +kernel
theorem dX1_door_3 : decode cX1_door 3 = .ok (.invokestatic 57, 3) := by decide +kernel
theorem dX1_door_6 : decode cX1_door 6 = .ok (.ifCond .eq 36, 3) := by decide +kernel
theorem dX1_door_9 : decode cX1_door 9 = .ok (.iload_n 2, 1) := by decide +kernel
theorem dX1_door_10 : decode cX1_door 10 = .ok (.iconst 0, 1) := by decide +kernel
theorem dX1_door_11 : decode cX1_door 11 = .ok (.iconst 5, 1) := by decide +kernel
theorem dX1_door_12 : decode cX1_door 12 = .ok (.invokestatic 57, 3) := by decide +kernel
theorem dX1_door_15 : decode cX1_door 15 = .ok (.ifCond .eq 27, 3) := by decide +kernel
theorem dX1_door_18 : decode cX1_door 18 = .ok (.iload_n 3, 1) := by decide +kernel
theorem dX1_door_19 : decode cX1_door 19 = .ok (.iconst 0, 1) := by decide +kernel
theorem dX1_door_20 : decode cX1_door 20 = .ok (.iconst 5, 1) := by decide +kernel
theorem dX1_door_21 : decode cX1_door 21 = .ok (.invokestatic 57, 3) := by decide +kernel
theorem dX1_door_24 : decode cX1_door 24 = .ok (.ifCond .eq 18, 3) := by decide +kernel
theorem dX1_door_27 : decode cX1_door 27 = .ok (.iload 4, 2) := by decide +kernel
theorem dX1_door_29 : decode cX1_door 29 = .ok (.iconst 0, 1) := by decide +kernel
theorem dX1_door_30 : decode cX1_door 30 = .ok (.bipush 20, 2) := by decide +kernel
theorem dX1_door_32 : decode cX1_door 32 = .ok (.invokestatic 57, 3) := by decide +kernel
theorem dX1_door_35 : decode cX1_door 35 = .ok (.ifCond .eq 7, 3) := by decide +kernel
theorem dX1_door_38 : decode cX1_door 38 = .ok (.iconst 1, 1) := by decide +kernel
theorem dX1_door_39 : decode cX1_door 39 = .ok (.goto 4, 3) := by decide +kernel
theorem dX1_door_42 : decode cX1_door 42 = .ok (.iconst 0, 1) := by decide +kernel
theorem dX1_door_43 : decode cX1_door 43 = .ok (.istore 5, 2) := by decide +kernel
theorem dX1_door_45 : decode cX1_door 45 = .ok (.iload 5, 2) := by decide +kernel
theorem dX1_door_47 : decode cX1_door 47 = .ok (.ifCond .eq 12, 3) := by decide +kernel
theorem dX1_door_50 : decode cX1_door 50 = .ok (.aload_n 0, 1) := by decide +kernel
theorem dX1_door_51 : decode cX1_door 51 = .ok (.getfield 61, 3) := by decide +kernel
theorem dX1_door_54 : decode cX1_door 54 = .ok (.bipush 6, 2) := by decide +kernel
theorem dX1_door_56 : decode cX1_door 56 = .ok (.if_icmp .lt 5, 3) := by decide +kernel
theorem dX1_door_59 : decode cX1_door 59 = .ok (.iconst (-1), 1) := by decide +kernel
theorem dX1_door_60 : decode cX1_door 60 = .ok (.ireturn, 1) := by decide +kernel
theorem dX1_door_61 : decode cX1_door 61 = .ok (.aload_n 0, 1) := by decide +kernel
theorem dX1_door_62 : decode cX1_door 62 = .ok (.getfield 61, 3) := by decide +kernel
theorem dX1_door_65 : decode cX1_door 65 = .ok (.istore 6, 2) := by decide +kernel
theorem dX1_door_67 : decode cX1_door 67 = .ok (.aload_n 0, 1) := by decide +kernel
theorem dX1_door_68 : decode cX1_door 68 = .ok (.getfield 9, 3) := by decide +kernel
theorem dX1_door_71 : decode cX1_door 71 = .ok (.iload 6, 2) := by decide +kernel
theorem dX1_door_73 : decode cX1_door 73 = .ok (.iload_n 1, 1) := by decide +kernel
theorem dX1_door_74 : decode cX1_door 74 = .ok (.iastore, 1) := by decide +kernel
theorem dX1_door_75 : decode cX1_door 75 = .ok (.aload_n 0, 1) := by decide +kernel
theorem dX1_door_76 : decode cX1_door 76 = .ok (.getfield 13, 3) := by decide +kernel
theorem dX1_door_79 : decode cX1_door 79 = .ok (.iload 6, 2) := by decide +kernel
theorem dX1_door_81 : decode cX1_door 81 = .ok (.iload_n 2, 1) := by decide +kernel
theorem dX1_door_82 : decode cX1_door 82 = .ok (.iastore, 1) := by decide +kernel
theorem dX1_door_83 : decode cX1_door 83 = .ok (.aload_n 0, 1) := by decide +kernel
theorem dX1_door_84 : decode cX1_door 84 = .ok (.getfield 16, 3) := by decide +kernel
theorem dX1_door_87 : decode cX1_door 87 = .ok (.iload 6, 2) := by decide +kernel
theorem dX1_door_89 : decode cX1_door 89 = .ok (.iload_n 3, 1) := by decide +kernel
theorem dX1_door_90 : decode cX1_door 90 = .ok (.iastore, 1) := by decide +kernel
theorem dX1_door_91 : decode cX1_door 91 = .ok (.aload_n 0, 1) := by decide +kernel
theorem dX1_door_92 : decode cX1_door 92 = .ok (.getfield 19, 3) := by decide +kernel
theorem dX1_door_95 : decode cX1_door 95 = .ok (.iload 6, 2) := by decide +kernel
theorem dX1_door_97 : decode cX1_door 97 = .ok (.iload 4, 2) := by decide +kernel
theorem dX1_door_99 : decode cX1_door 99 = .ok (.iastore, 1) := by decide +kernel
theorem dX1_door_100 : decode cX1_door 100 = .ok (.aload_n 0, 1) := by decide +kernel
theorem dX1_door_101 : decode cX1_door 101 = .ok (.iload 6, 2) := by decide +kernel
theorem dX1_door_103 : decode cX1_door 103 = .ok (.iconst 1, 1) := by decide +kernel
theorem dX1_door_104 : decode cX1_door 104 = .ok (.iadd, 1) := by decide +kernel
theorem dX1_door_105 : decode cX1_door 105 = .ok (.putfield 61, 3) := by decide +kernel
theorem dX1_door_108 : decode cX1_door 108 = .ok (.iload 6, 2) := by decide +kernel
theorem dX1_door_110 : decode cX1_door 110 = .ok (.ireturn, 1) := by decide +kernel
set_option maxRecDepth 20000 in
theorem ggX1_row_X1_isDoor : GoodIn wsX1_row wsX1_isDoor := goodIn_r _ [7, 8, 9, 10, 6, 11, 20, 21, 22, 23, 24, 25, 26, 27, 28, 29, 30, 31, 32, 33, 34, 35] (by decide +kernel) (by decide +kernel)
set_option maxRecDepth 20000 in
theorem gX1_row_X1_isDoor : GoodIn wsX1_row (wsV RX1 65 RX1 yX1_isDoor wsX1_isDoor) := goodIn_app (goodIn_of _ (by decide +kernel)) ggX1_row_X1_isDoor
set_option maxRecDepth 20000 in
theorem ggX1_row_X1_isTick : GoodIn wsX1_row wsX1_isTick := goodIn_r _ [15, 16, 9, 10, 6, 11, 20, 21, 22, 23, 24, 25, 26, 27, 28, 29, 30, 31, 32, 33, 34, 35] (by decide +kernel) (by decide +kernel)
set_option maxRecDepth 20000 in
theorem gX1_row_X1_isTick : GoodIn wsX1_row (wsV RX1 69 RX1 yX1_isTick wsX1_isTick) := goodIn_app (goodIn_of _ (by decide +kernel)) ggX1_row_X1_isTick
set_option maxRecDepth 20000 in
theorem ggX1_row_X1_within : GoodIn wsX1_row wsX1_within := goodIn_r _ [11] (by decide +kernel) (by decide +kernel)
set_option maxRecDepth 20000 in
theorem gX1_row_X1_within : GoodIn wsX1_row (va_wsS RX1 57 yX1_within wsX1_within) := goodIn_app (goodIn_of _ (by decide +kernel)) ggX1_row_X1_within
set_option maxRecDepth 20000 in
theorem ggX1_row_X1_place : GoodIn wsX1_row wsX1_place := goodIn_r _ [19] (by decide +kernel) (by decide +kernel)
end
section
set_option maxRecDepth 20000 in
theorem gX1_row_X1_place : GoodIn wsX1_row (va_wsS RX1 72 yX1_place wsX1_place) := goodIn_app (goodIn_of _ (by decide +kernel)) ggX1_row_X1_place
theorem dX1_row_0 : decode cX1_row 0 = .ok (.aload_n 0, 1) := by decide +kernel
theorem dX1_row_1 : decode cX1_row 1 = .ok (.iload_n 1, 1) := by decide +kernel
theorem dX1_row_2 : decode cX1_row 2 = .ok (.invokevirtual 65, 3) := by decide +kernel
theorem dX1_row_5 : decode cX1_row 5 = .ok (.ifCond .eq 36, 3) := by decide +kernel
theorem dX1_row_8 : decode cX1_row 8 = .ok (.aload_n 0, 1) := by decide +kernel
theorem dX1_row_9 : decode cX1_row 9 = .ok (.iload_n 2, 1) := by decide +kernel
theorem dX1_row_10 : decode cX1_row 10 = .ok (.invokevirtual 69, 3) := by decide +kernel
theorem dX1_row_13 : decode cX1_row 13 = .ok (.ifCond .eq 28, 3) := by decide +kernel
theorem dX1_row_16 : decode cX1_row 16 = .ok (.iload_n 3, 1) := by decide +kernel
theorem dX1_row_17 : decode cX1_row 17 = .ok (.iconst 0, 1) := by decide +kernel
theorem dX1_row_18 : decode cX1_row 18 = .ok (.bipush 20, 2) := by decide +kernel
theorem dX1_row_20 : decode cX1_row 20 = .ok (.invokestatic 57, 3) := by decide +kernel
theorem dX1_row_23 : decode cX1_row 23 = .ok (.ifCond .eq 18, 3) := by decide +kernel
theorem dX1_row_26 : decode cX1_row 26 = .ok (.iload 4, 2) := by decide +kernel
theorem dX1_row_28 : decode cX1_row 28 = .ok (.iconst 0, 1) := by decide +kernel
theorem dX1_row_29 : decode cX1_row 29 = .ok (.bipush 20, 2) := by decide +kernel
theorem dX1_row_31 : decode cX1_row 31 = .ok (.invokestatic 57, 3) := by decide +kernel
theorem dX1_row_34 : decode cX1_row 34 = .ok (.ifCond .eq 7, 3) := by decide +kernel
theorem dX1_row_37 : decode cX1_row 37 = .ok (.iconst 1, 1) := by decide +kernel
theorem dX1_row_38 : decode cX1_row 38 = .ok (.goto 4, 3) := by decide +kernel
theorem dX1_row_41 : decode cX1_row 41 = .ok (.iconst 0, 1) := by decide +kernel
theorem dX1_row_42 : decode cX1_row 42 = .ok (.istore 5, 2) := by decide +kernel
theorem dX1_row_44 : decode cX1_row 44 = .ok (.iload 5, 2) := by decide +kernel
theorem dX1_row_46 : decode cX1_row 46 = .ok (.ifCond .ne 5, 3) := by decide +kernel
theorem dX1_row_49 : decode cX1_row 49 = .ok (.iconst 0, 1) := by decide +kernel
theorem dX1_row_50 : decode cX1_row 50 = .ok (.ireturn, 1) := by decide +kernel
theorem dX1_row_51 : decode cX1_row 51 = .ok (.iload_n 1, 1) := by decide +kernel
theorem dX1_row_52 : decode cX1_row 52 = .ok (.iload_n 2, 1) := by decide +kernel
theorem dX1_row_53 : decode cX1_row 53 = .ok (.invokestatic 72, 3) := by decide +kernel
theorem dX1_row_56 : decode cX1_row 56 = .ok (.istore 6, 2) := by decide +kernel
theorem dX1_row_58 : decode cX1_row 58 = .ok (.aload_n 0, 1) := by decide +kernel
theorem dX1_row_59 : decode cX1_row 59 = .ok (.getfield 22, 3) := by decide +kernel
theorem dX1_row_62 : decode cX1_row 62 = .ok (.iload 6, 2) := by decide +kernel
theorem dX1_row_64 : decode cX1_row 64 = .ok (.iload_n 3, 1) := by decide +kernel
theorem dX1_row_65 : decode cX1_row 65 = .ok (.iastore, 1) := by decide +kernel
theorem dX1_row_66 : decode cX1_row 66 = .ok (.aload_n 0, 1) := by decide +kernel
theorem dX1_row_67 : decode cX1_row 67 = .ok (.getfield 25, 3) := by decide +kernel
theorem dX1_row_70 : decode cX1_row 70 = .ok (.iload 6, 2) := by decide +kernel
theorem dX1_row_72 : decode cX1_row 72 = .ok (.iload 4, 2) := by decide +kernel
theorem dX1_row_74 : decode cX1_row 74 = .ok (.iastore, 1) := by decide +kernel
theorem dX1_row_75 : decode cX1_row 75 = .ok (.iconst 1, 1) := by decide +kernel
theorem dX1_row_76 : decode cX1_row 76 = .ok (.ireturn, 1) := by decide +kernel
set_option maxRecDepth 20000 in
theorem ggX1_lack_X1_isDoor : GoodIn wsX1_lack wsX1_isDoor := goodIn_r _ [7, 8, 9, 10, 6, 11, 20, 21, 22, 23, 24, 25, 26, 27, 28, 29, 30, 31, 32, 33, 34, 35] (by decide +kernel) (by decide +kernel)
set_option maxRecDepth 20000 in
theorem gX1_lack_X1_isDoor : GoodIn wsX1_lack (wsV RX1 65 RX1 yX1_isDoor wsX1_isDoor) := goodIn_app (goodIn_of _ (by decide +kernel)) ggX1_lack_X1_isDoor
set_option maxRecDepth 20000 in
theorem ggX1_lack_X1_isTick : GoodIn wsX1_lack wsX1_isTick := goodIn_r _ [15, 16, 9, 10, 6, 11, 20, 21, 22, 23, 24, 25, 26, 27, 28, 29, 30, 31, 32, 33, 34, 35] (by decide +kernel) (by decide +kernel)
set_option maxRecDepth 20000 in
theorem gX1_lack_X1_isTick : GoodIn wsX1_lack (wsV RX1 69 RX1 yX1_isTick wsX1_isTick) := goodIn_app (goodIn_of _ (by decide +kernel)) ggX1_lack_X1_isTick
set_option maxRecDepth 20000 in
theorem ggX1_lack_X1_place : GoodIn wsX1_lack wsX1_place := goodIn_r _ [19] (by decide +kernel) (by decide +kernel)
set_option maxRecDepth 20000 in
theorem gX1_lack_X1_place : GoodIn wsX1_lack (va_wsS RX1 72 yX1_place wsX1_place) := goodIn_app (goodIn_of _ (by decide +kernel)) ggX1_lack_X1_place
theorem dX1_lack_0 : decode cX1_lack 0 = .ok (.aload_n 0, 1) := by decide +kernel
theorem dX1_lack_1 : decode cX1_lack 1 = .ok (.iload_n 1, 1) := by decide +kernel
theorem dX1_lack_2 : decode cX1_lack 2 = .ok (.invokevirtual 65, 3) := by decide +kernel
theorem dX1_lack_5 : decode cX1_lack 5 = .ok (.ifCond .eq 24, 3) := by decide +kernel
theorem dX1_lack_8 : decode cX1_lack 8 = .ok (.aload_n 0, 1) := by decide +kernel
theorem dX1_lack_9 : decode cX1_lack 9 = .ok (.iload_n 2, 1) := by decide +kernel
theorem dX1_lack_10 : decode cX1_lack 10 = .ok (.invokevirtual 69, 3) := by decide +kernel
theorem dX1_lack_13 : decode cX1_lack 13 = .ok (.ifCond .eq 16, 3) := by decide +kernel
theorem dX1_lack_16 : decode cX1_lack 16 = .ok (.aload_n 0, 1) := by decide +kernel
theorem dX1_lack_17 : decode cX1_lack 17 = .ok (.iload_n 3, 1) := by decide +kernel
theorem dX1_lack_18 : decode cX1_lack 18 = .ok (.invokevirtual 69, 3) := by decide +kernel
theorem dX1_lack_21 : decode cX1_lack 21 = .ok (.ifCond .eq 8, 3) := by decide +kernel
theorem dX1_lack_24 : decode cX1_lack 24 = .ok (.iload_n 2, 1) := by decide +kernel
theorem dX1_lack_25 : decode cX1_lack 25 = .ok (.iload_n 3, 1) := by decide +kernel
theorem dX1_lack_26 : decode cX1_lack 26 = .ok (.if_icmp .le 5, 3) := by decide +kernel
theorem dX1_lack_29 : decode cX1_lack 29 = .ok (.iconst 0, 1) := by decide +kernel
theorem dX1_lack_30 : decode cX1_lack 30 = .ok (.ireturn, 1) := by decide +kernel
theorem dX1_lack_31 : decode cX1_lack 31 = .ok (.iload_n 2, 1) := by decide +kernel
theorem dX1_lack_32 : decode cX1_lack 32 = .ok (.istore 4, 2) := by decide +kernel
theorem dX1_lack_34 : decode cX1_lack 34 = .ok (.iload 4, 2) := by decide +kernel
theorem dX1_lack_36 : decode cX1_lack 36 = .ok (.iload_n 3, 1) := by decide +kernel
theorem dX1_lack_37 : decode cX1_lack 37 = .ok (.if_icmp .gt 33, 3) := by decide +kernel
theorem dX1_lack_40 : decode cX1_lack 40 = .ok (.aload_n 0, 1) := by decide +kernel
theorem dX1_lack_41 : decode cX1_lack 41 = .ok (.getfield 22, 3) := by decide +kernel
theorem dX1_lack_44 : decode cX1_lack 44 = .ok (.iload_n 1, 1) := by decide +kernel
theorem dX1_lack_45 : decode cX1_lack 45 = .ok (.iload 4, 2) := by decide +kernel
theorem dX1_lack_47 : decode cX1_lack 47 = .ok (.invokestatic 72, 3) := by decide +kernel
theorem dX1_lack_50 : decode cX1_lack 50 = .ok (.iconst (-1), 1) := by decide +kernel
theorem dX1_lack_51 : decode cX1_lack 51 = .ok (.iastore, 1) := by decide +kernel
theorem dX1_lack_52 : decode cX1_lack 52 = .ok (.aload_n 0, 1) := by decide +kernel
theorem dX1_lack_53 : decode cX1_lack 53 = .ok (.getfield 25, 3) := by decide +kernel
theorem dX1_lack_56 : decode cX1_lack 56 = .ok (.iload_n 1, 1) := by decide +kernel
theorem dX1_lack_57 : decode cX1_lack 57 = .ok (.iload 4, 2) := by decide +kernel
theorem dX1_lack_59 : decode cX1_lack 59 = .ok (.invokestatic 72, 3) := by decide +kernel
theorem dX1_lack_62 : decode cX1_lack 62 = .ok (.iconst (-1), 1) := by decide +kernel
theorem dX1_lack_63 : decode cX1_lack 63 = .ok (.iastore, 1) := by decide +kernel
theorem dX1_lack_64 : decode cX1_lack 64 = .ok (.iinc 4 1, 3) := by decide +kernel
theorem dX1_lack_67 : decode cX1_lack 67 = .ok (.goto (-33), 3) := by decide +kernel
theorem dX1_lack_70 : decode cX1_lack 70 = .ok (.iconst 1, 1) := by decide +kernel
theorem dX1_lack_71 : decode cX1_lack 71 = .ok (.ireturn, 1) := by decide +kernel
set_option maxRecDepth 20000 in
theorem ggX1_start_X1_within : GoodIn wsX1_start wsX1_within := goodIn_r _ [6] (by decide +kernel) (by decide +kernel)
set_option maxRecDepth 20000 in
theorem gX1_start_X1_within : GoodIn wsX1_start (va_wsS RX1 57 yX1_within wsX1_within) := goodIn_app (goodIn_of _ (by decide +kernel)) ggX1_start_X1_within
set_option maxRecDepth 20000 in
theorem ggX1_start_X1_isSpanInside : GoodIn wsX1_start wsX1_isSpanInside := goodIn_r _ [9] (by decide +kernel) (by decide +kernel)
set_option maxRecDepth 20000 in
theorem gX1_start_X1_isSpanInside : GoodIn wsX1_start (va_wsS RX1 76 yX1_isSpanInside wsX1_isSpanInside) := goodIn_app (goodIn_of _ (by decide +kernel)) ggX1_start_X1_isSpanInside
theorem dX1_start_0 : decode cX1_start 0 = .ok (.iload_n 1, 1) := by decide +kernel
theorem dX1_start_1 : decode cX1_start 1 = .ok (.iconst 0, 1) := by decide +kernel
theorem dX1_start_2 : decode cX1_start 2 = .ok (.iconst 1, 1) := by decide +kernel
theorem dX1_start_3 : decode cX1_start 3 = .ok (.invokestatic 57, 3) := by decide +kernel
theorem dX1_start_6 : decode cX1_start 6 = .ok (.ifCond .eq 11, 3) := by decide +kernel
theorem dX1_start_9 : decode cX1_start 9 = .ok (.iload_n 2, 1) := by decide +kernel
theorem dX1_start_10 : decode cX1_start 10 = .ok (.iload_n 3, 1) := by decide +kernel
theorem dX1_start_11 : decode cX1_start 11 = .ok (.invokestatic 76, 3) := by decide +kernel
theorem dX1_start_14 : decode cX1_start 14 = .ok (.ifCond .ne 5, 3) := by decide +kernel
theorem dX1_start_17 : decode cX1_start 17 = .ok (.iconst 0, 1) := by decide +kernel
theorem dX1_start_18 : decode cX1_start 18 = .ok (.ireturn, 1) := by decide +kernel
theorem dX1_start_19 : decode cX1_start 19 = .ok (.aload_n 0, 1) := by decide +kernel
theorem dX1_start_20 : decode cX1_start 20 = .ok (.getfield 28, 3) := by decide +kernel
theorem dX1_start_23 : decode cX1_start 23 = .ok (.iload_n 1, 1) := by decide +kernel
theorem dX1_start_24 : decode cX1_start 24 = .ok (.iload_n 2, 1) := by decide +kernel
theorem dX1_start_25 : decode cX1_start 25 = .ok (.iastore, 1) := by decide +kernel
theorem dX1_start_26 : decode cX1_start 26 = .ok (.aload_n 0, 1) := by decide +kernel
theorem dX1_start_27 : decode cX1_start 27 = .ok (.getfield 31, 3) := by decide +kernel
theorem dX1_start_30 : decode cX1_start 30 = .ok (.iload_n 1, 1) := by decide +kernel
theorem dX1_start_31 : decode cX1_start 31 = .ok (.iload_n 3, 1) := by decide +kernel
theorem dX1_start_32 : decode cX1_start 32 = .ok (.iastore, 1) := by decide +kernel
theorem dX1_start_33 : decode cX1_start 33 = .ok (.iconst 1, 1) := by decide +kernel
theorem dX1_start_34 : decode cX1_start 34 = .ok (.ireturn, 1) := by decide +kernel
set_option maxRecDepth 20000 in
theorem ggX1_check_X1_isTime : GoodIn wsX1_check wsX1_isTime := goodIn_r _ [10, 11, 12, 13, 9, 14, 21, 22, 23, 24, 25, 26, 27, 28, 29, 30, 31, 32, 33, 34, 35, 36] (by decide +kernel) (by decide +kernel)
set_option maxRecDepth 20000 in
theorem gX1_check_X1_isTime : GoodIn wsX1_check (wsV RX1 80 RX1 yX1_isTime wsX1_isTime) := goodIn_app (goodIn_of _ (by decide +kernel)) ggX1_check_X1_isTime
set_option maxRecDepth 20000 in
theorem ggX1_check_X1_isWhat : GoodIn wsX1_check wsX1_isWhat := goodIn_r _ [17, 12, 13, 9, 14] (by decide +kernel) (by decide +kernel)
set_option maxRecDepth 20000 in
theorem gX1_check_X1_isWhat : GoodIn wsX1_check (va_wsS RX1 83 yX1_isWhat wsX1_isWhat) := goodIn_app (goodIn_of _ (by decide +kernel)) ggX1_check_X1_isWhat
set_option maxRecDepth 20000 in
theorem ggX1_check_X1_isSpanInside : GoodIn wsX1_check wsX1_isSpanInside := goodIn_r _ [20] (by decide +kernel) (by decide +kernel)
set_option maxRecDepth 20000 in
theorem gX1_check_X1_isSpanInside : GoodIn wsX1_check (va_wsS RX1 76 yX1_isSpanInside wsX1_isSpanInside) := goodIn_app (goodIn_of _ (by decide +kernel)) ggX1_check_X1_isSpanInside
theorem dX1_check_0 : decode cX1_check 0 = .ok (.aload_n 0, 1) := by decide +kernel
theorem dX1_check_1 : decode cX1_check 1 = .ok (.iload_n 1, 1) := by decide +kernel
theorem dX1_check_2 : decode cX1_check 2 = .ok (.invokevirtual 80, 3) := by decide +kernel
theorem dX1_check_5 : decode cX1_check 5 = .ok (.ifCond .eq 23, 3) := by decide +kernel
theorem dX1_check_8 : decode cX1_check 8 = .ok (.iload_n 2, 1) := by decide +kernel
theorem dX1_check_9 : decode cX1_check 9 = .ok (.invokestatic 83, 3) := by decide +kernel
theorem dX1_check_12 : decode cX1_check 12 = .ok (.ifCond .eq 16, 3) := by decide +kernel
theorem dX1_check_15 : decode cX1_check 15 = .ok (.iload_n 3, 1) := by decide +kernel
theorem dX1_check_16 : decode cX1_check 16 = .ok (.iload 4, 2) := by decide +kernel
theorem dX1_check_18 : decode cX1_check 18 = .ok (.invokestatic 76, 3) := by decide +kernel
theorem dX1_check_21 : decode cX1_check 21 = .ok (.ifCond .eq 7, 3) := by decide +kernel
theorem dX1_check_24 : decode cX1_check 24 = .ok (.iconst 1, 1) := by decide +kernel
theorem dX1_check_25 : decode cX1_check 25 = .ok (.goto 4, 3) := by decide +kernel
theorem dX1_check_28 : decode cX1_check 28 = .ok (.iconst 0, 1) := by decide +kernel
theorem dX1_check_29 : decode cX1_check 29 = .ok (.istore 5, 2) := by decide +kernel
theorem dX1_check_31 : decode cX1_check 31 = .ok (.iload 5, 2) := by decide +kernel
theorem dX1_check_33 : decode cX1_check 33 = .ok (.ifCond .eq 12, 3) := by decide +kernel
theorem dX1_check_36 : decode cX1_check 36 = .ok (.aload_n 0, 1) := by decide +kernel
theorem dX1_check_37 : decode cX1_check 37 = .ok (.getfield 86, 3) := by decide +kernel
theorem dX1_check_40 : decode cX1_check 40 = .ok (.bipush 20, 2) := by decide +kernel
theorem dX1_check_42 : decode cX1_check 42 = .ok (.if_icmp .lt 5, 3) := by decide +kernel
theorem dX1_check_45 : decode cX1_check 45 = .ok (.iconst (-1), 1) := by decide +kernel
theorem dX1_check_46 : decode cX1_check 46 = .ok (.ireturn, 1) := by decide +kernel
theorem dX1_check_47 : decode cX1_check 47 = .ok (.aload_n 0, 1) := by decide +kernel
theorem dX1_check_48 : decode cX1_check 48 = .ok (.getfield 86, 3) := by decide +kernel
theorem dX1_check_51 : decode cX1_check 51 = .ok (.istore 6, 2) := by decide +kernel
theorem dX1_check_53 : decode cX1_check 53 = .ok (.aload_n 0, 1) := by decide +kernel
theorem dX1_check_54 : decode cX1_check 54 = .ok (.getfield 34, 3) := by decide +kernel
theorem dX1_check_57 : decode cX1_check 57 = .ok (.iload 6, 2) := by decide +kernel
theorem dX1_check_59 : decode cX1_check 59 = .ok (.iload_n 1, 1) := by decide +kernel
theorem dX1_check_60 : decode cX1_check 60 = .ok (.iastore, 1) := by decide +kernel
theorem dX1_check_61 : decode cX1_check 61 = .ok (.aload_n 0, 1) := by decide +kernel
theorem dX1_check_62 : decode cX1_check 62 = .ok (.getfield 37, 3) := by decide +kernel
theorem dX1_check_65 : decode cX1_check 65 = .ok (.iload 6, 2) := by decide +kernel
theorem dX1_check_67 : decode cX1_check 67 = .ok (.iload_n 2, 1) := by decide +kernel
theorem dX1_check_68 : decode cX1_check 68 = .ok (.iastore, 1) := by decide +kernel
theorem dX1_check_69 : decode cX1_check 69 = .ok (.aload_n 0, 1) := by decide +kernel
theorem dX1_check_70 : decode cX1_check 70 = .ok (.getfield 40, 3) := by decide +kernel
theorem dX1_check_73 : decode cX1_check 73 = .ok (.iload 6, 2) := by decide +kernel
theorem dX1_check_75 : decode cX1_check 75 = .ok (.iload_n 3, 1) := by decide +kernel
theorem dX1_check_76 : decode cX1_check 76 = .ok (.iastore, 1) := by decide +kernel
theorem dX1_check_77 : decode cX1_check 77 = .ok (.aload_n 0, 1) := by decide +kernel
theorem dX1_check_78 : decode cX1_check 78 = .ok (.getfield 43, 3) := by decide +kernel
theorem dX1_check_81 : decode cX1_check 81 = .ok (.iload 6, 2) := by decide +kernel
theorem dX1_check_83 : decode cX1_check 83 = .ok (.iload 4, 2) := by decide +kernel
theorem dX1_check_85 : decode cX1_check 85 = .ok (.iastore, 1) := by decide +kernel
theorem dX1_check_86 : decode cX1_check 86 = .ok (.aload_n 0, 1) := by decide +kernel
theorem dX1_check_87 : decode cX1_check 87 = .ok (.iload 6, 2) := by decide +kernel
theorem dX1_check_89 : decode cX1_check 89 = .ok (.iconst 1, 1) := by decide +kernel
theorem dX1_check_90 : decode cX1_check 90 = .ok (.iadd, 1) := by decide +kernel
theorem dX1_check_91 : decode cX1_check 91 = .ok (.putfield 86, 3) := by decide +kernel
theorem dX1_check_94 : decode cX1_check 94 = .ok (.iload 6, 2) := by decide +kernel
theorem dX1_check_96 : decode cX1_check 96 = .ok (.ireturn, 1) := by decide +kernel
theorem dX1_uncheck_0 : decode cX1_uncheck 0 = .ok (.aload_n 0, 1) := by decide +kernel
theorem dX1_uncheck_1 : decode cX1_uncheck 1 = .ok (.getfield 86, 3) := by decide +kernel
theorem dX1_uncheck_4 : decode cX1_uncheck 4 = .ok (.ifCond .ne 5, 3) := by decide +kernel
theorem dX1_uncheck_7 : decode cX1_uncheck 7 = .ok (.iconst (-1), 1) := by decide +kernel
theorem dX1_uncheck_8 : decode cX1_uncheck 8 = .ok (.ireturn, 1) := by decide +kernel
theorem dX1_uncheck_9 : decode cX1_uncheck 9 = .ok (.aload_n 0, 1) := by decide +kernel
theorem dX1_uncheck_10 : decode cX1_uncheck 10 = .ok (.dup, 1) := by decide +kernel
theorem dX1_uncheck_11 : decode cX1_uncheck 11 = .ok (.getfield 86, 3) := by decide +kernel
theorem dX1_uncheck_14 : decode cX1_uncheck 14 = .ok (.iconst 1, 1) := by decide +kernel
theorem dX1_uncheck_15 : decode cX1_uncheck 15 = .ok (.isub, 1) := by decide +kernel
theorem dX1_uncheck_16 : decode cX1_uncheck 16 = .ok (.putfield 86, 3) := by decide +kernel
theorem dX1_uncheck_19 : decode cX1_uncheck 19 = .ok (.aload_n 0, 1) := by decide +kernel
theorem dX1_uncheck_20 : decode cX1_uncheck 20 = .ok (.getfield 86, 3) := by decide +kernel
theorem dX1_uncheck_23 : decode cX1_uncheck 23 = .ok (.ireturn, 1) := by decide +kernel
set_option maxRecDepth 20000 in
theorem ggX1_fits_X1_lookAhead : GoodIn wsX1_fits wsX1_lookAhead := goodIn_r _ [5, 6, 7, 8, 9, 10, 11, 12, 13, 14, 15, 16, 17, 18, 19, 20, 21, 22, 4, 23, 24, 25, 26, 27, 28, 29, 30, 31, 32, 33, 34, 35, 36, 37, 38, 39, 40, 41, 42, 43, 44, 45, 46, 47, 48, 49, 50, 51, 52, 53, 54, 55, 56, 57, 58, 59, 60, 61, 62, 63, 64, 65, 66, 67, 68, 69, 70, 71, 72, 73, 74, 75, 76, 77, 78, 79, 80, 81, 82, 83, 84, 85, 86, 87, 88, 89, 90, 91, 92, 93, 94, 95, 96, 97, 98, 99, 100, 101, 102, 103, 104, 105, 106, 107, 108, 109, 110, 111, 112, 113, 114, 115, 116, 117, 118, 119] (by decide +kernel) (by decide +kernel)
set_option maxRecDepth 20000 in
theorem gX1_fits_X1_lookAhead : GoodIn wsX1_fits (wsV RX1 89 RX1 yX1_lookAhead wsX1_lookAhead) := goodIn_app (goodIn_of _ (by decide +kernel)) ggX1_fits_X1_lookAhead
theorem dX1_fits_0 : decode cX1_fits 0 = .ok (.aload_n 0, 1) := by decide +kernel
theorem dX1_fits_1 : decode cX1_fits 1 = .ok (.iconst 0, 1) := by decide +kernel
theorem dX1_fits_2 : decode cX1_fits 2 = .ok (.invokevirtual 89, 3) := by decide +kernel
theorem dX1_fits_5 : decode cX1_fits 5 = .ok (.iconst (-1), 1) := by decide +kernel
theorem dX1_fits_6 : decode cX1_fits 6 = .ok (.if_icmp .ne 7, 3) := by decide +kernel
theorem dX1_fits_9 : decode cX1_fits 9 = .ok (.iconst 1, 1) := by decide +kernel
theorem dX1_fits_10 : decode cX1_fits 10 = .ok (.goto 4, 3) := by decide +kernel
theorem dX1_fits_13 : decode cX1_fits 13 = .ok (.iconst 0, 1) := by decide +kernel
theorem dX1_fits_14 : decode cX1_fits 14 = .ok (.ireturn, 1) := by decide +kernel
set_option maxRecDepth 20000 in
theorem ggX1_inside_X1_isTime : GoodIn wsX1_inside wsX1_isTime := goodIn_r _ [10, 11, 12, 13, 9, 14, 126, 127, 128, 129, 130, 131, 132, 133, 134, 135, 136, 137, 138, 139, 140, 141] (by decide +kernel) (by decide +kernel)
set_option maxRecDepth 20000 in
theorem gX1_inside_X1_isTime : GoodIn wsX1_inside (wsV RX1 80 RX1 yX1_isTime wsX1_isTime) := goodIn_app (goodIn_of _ (by decide +kernel)) ggX1_inside_X1_isTime
set_option maxRecDepth 20000 in
theorem ggX1_inside_X1_isWhat : GoodIn wsX1_inside wsX1_isWhat := goodIn_r _ [17, 12, 13, 9, 14] (by decide +kernel) (by decide +kernel)
set_option maxRecDepth 20000 in
theorem gX1_inside_X1_isWhat : GoodIn wsX1_inside (va_wsS RX1 83 yX1_isWhat wsX1_isWhat) := goodIn_app (goodIn_of _ (by decide +kernel)) ggX1_inside_X1_isWhat
set_option maxRecDepth 20000 in
theorem ggX1_inside_X1_lookAhead : GoodIn wsX1_inside wsX1_lookAhead := goodIn_r _ [21, 5, 22, 23, 11, 24, 25, 26, 27, 28, 29, 30, 31, 32, 33, 34, 35, 36, 9, 37, 38, 39, 40, 41, 42, 43, 44, 45, 46, 47, 48, 49, 50, 51, 52, 53, 54, 55, 56, 57, 58, 59, 60, 61, 62, 63, 64, 65, 66, 67, 68, 69, 70, 71, 72, 73, 74, 75, 76, 77, 78, 79, 80, 81, 82, 83, 84, 85, 86, 87, 88, 89, 90, 91, 92, 93, 94, 95, 96, 97, 98, 99, 100, 101, 102, 103, 104, 105, 106, 107, 108, 109, 110, 111, 112, 113, 114, 115, 126, 127, 128, 129, 130, 131, 132, 133, 134, 135, 136, 137, 138, 139, 140, 141, 142, 143] (by decide +kernel) (by decide +kernel)
set_option maxRecDepth 20000 in
theorem gX1_inside_X1_lookAhead : GoodIn wsX1_inside (wsV RX1 89 RX1 yX1_lookAhead wsX1_lookAhead) := goodIn_app (goodIn_of _ (by decide +kernel)) ggX1_inside_X1_lookAhead
set_option maxRecDepth 20000 in
theorem ggX1_inside_X1_lookBackTo : GoodIn wsX1_inside wsX1_lookBackTo := goodIn_r _ [119, 11, 5, 34, 35, 36, 9, 37, 38, 39, 24, 25, 26, 27, 28, 29, 30, 31, 32, 33, 40, 41, 42, 43, 44, 45, 46, 47, 48, 49, 50, 51, 52, 53, 54, 55, 56, 57, 58, 59, 60, 61, 62, 63, 64, 65, 66, 67, 68, 69, 70, 71, 72, 73, 74, 75, 120, 121, 122, 123, 80, 81, 82, 83, 84, 85, 86, 87, 111, 100, 101, 102, 103, 104, 105, 106, 107, 108, 109, 110, 112, 113, 114, 115, 126, 127, 128, 129, 130, 131, 132, 133, 134, 135, 136, 137, 138, 139, 140, 141, 142, 143] (by decide +kernel) (by decide +kernel)
set_option maxRecDepth 20000 in
theorem gX1_inside_X1_lookBackTo : GoodIn wsX1_inside (wsV RX1 105 RX1 yX1_lookBackTo wsX1_lookBackTo) := goodIn_app (goodIn_of _ (by decide +kernel)) ggX1_inside_X1_lookBackTo
set_option maxRecDepth 20000 in
theorem ggX1_inside_X0_high : GoodIn wsX1_inside wsX0_high := goodIn_r _ [87, 30, 31, 32, 27, 33, 142, 143] (by decide +kernel) (by decide +kernel)
set_option maxRecDepth 20000 in
theorem gX1_inside_X0_high : GoodIn wsX1_inside (wsV RX1 108 RX0 yX0_high wsX0_high) := goodIn_app (goodIn_of _ (by decide +kernel)) ggX1_inside_X0_high
set_option maxRecDepth 20000 in
theorem ggX1_inside_X0_low : GoodIn wsX1_inside wsX0_low := goodIn_r _ [83, 29, 31, 32, 27, 33, 142, 143] (by decide +kernel) (by decide +kernel)
set_option maxRecDepth 20000 in
theorem gX1_inside_X0_low : GoodIn wsX1_inside (wsV RX1 111 RX0 yX0_low wsX0_low) := goodIn_app (goodIn_of _ (by decide +kernel)) ggX1_inside_X0_low
theorem dX1_inside_0 : decode cX1_inside 0 = .ok (.aload_n 0, 1) := by decide +kernel
theorem dX1_inside_1 : decode cX1_inside 1 = .ok (.iload_n 1, 1) := by decide +kernel
theorem dX1_inside_2 : decode cX1_inside 2 = .ok (.invokevirtual 80, 3) := by decide +kernel
theorem dX1_inside_5 : decode cX1_inside 5 = .ok (.ifCond .eq 10, 3) := by decide +kernel
theorem dX1_inside_8 : decode cX1_inside 8 = .ok (.iload_n 2, 1) := by decide +kernel
theorem dX1_inside_9 : decode cX1_inside 9 = .ok (.invokestatic 83, 3) := by decide +kernel
theorem dX1_inside_12 : decode cX1_inside 12 = .ok (.ifCond .ne 13, 3) := by decide +kernel
theorem dX1_inside_15 : decode cX1_inside 15 = .ok (.new 93, 3) := by decide +kernel
theorem dX1_inside_18 : decode cX1_inside 18 = .ok (.dup, 1) := by decide +kernel
theorem dX1_inside_19 : decode cX1_inside 19 = .ok (.ldc 95, 2) := by decide +kernel
theorem dX1_inside_21 : decode cX1_inside 21 = .ok (.invokespecial 97, 3) := by decide +kernel
theorem dX1_inside_24 : decode cX1_inside 24 = .ok (.athrow, 1) := by decide +kernel
theorem dX1_inside_25 : decode cX1_inside 25 = .ok (.aload_n 0, 1) := by decide +kernel
theorem dX1_inside_26 : decode cX1_inside 26 = .ok (.iconst 0, 1) := by decide +kernel
theorem dX1_inside_27 : decode cX1_inside 27 = .ok (.invokevirtual 89, 3) := by decide +kernel
theorem dX1_inside_30 : decode cX1_inside 30 = .ok (.iconst (-1), 1) := by decide +kernel
theorem dX1_inside_31 : decode cX1_inside 31 = .ok (.if_icmp .eq 13, 3) := by decide +kernel
theorem dX1_inside_34 : decode cX1_inside 34 = .ok (.new 100, 3) := by decide +kernel
theorem dX1_inside_37 : decode cX1_inside 37 = .ok (.dup, 1) := by decide +kernel
theorem dX1_inside_38 : decode cX1_inside 38 = .ok (.ldc 102, 2) := by decide +kernel
theorem dX1_inside_40 : decode cX1_inside 40 = .ok (.invokespecial 104, 3) := by decide +kernel
theorem dX1_inside_43 : decode cX1_inside 43 = .ok (.athrow, 1) := by decide +kernel
theorem dX1_inside_44 : decode cX1_inside 44 = .ok (.aload_n 0, 1) := by decide +kernel
theorem dX1_inside_45 : decode cX1_inside 45 = .ok (.iload_n 1, 1) := by decide +kernel
theorem dX1_inside_46 : decode cX1_inside 46 = .ok (.invokevirtual 105, 3) := by decide +kernel
theorem dX1_inside_49 : decode cX1_inside 49 = .ok (.iload_n 3, 1) := by decide +kernel
theorem dX1_inside_50 : decode cX1_inside 50 = .ok (.ifCond .eq 15, 3) := by decide +kernel
theorem dX1_inside_53 : decode cX1_inside 53 = .ok (.aload_n 0, 1) := by decide +kernel
theorem dX1_inside_54 : decode cX1_inside 54 = .ok (.getfield 49, 3) := by decide +kernel
theorem dX1_inside_57 : decode cX1_inside 57 = .ok (.iload_n 1, 1) := by decide +kernel
theorem dX1_inside_58 : decode cX1_inside 58 = .ok (.iload_n 2, 1) := by decide +kernel
theorem dX1_inside_59 : decode cX1_inside 59 = .ok (.invokevirtual 108, 3) := by decide +kernel
theorem dX1_inside_62 : decode cX1_inside 62 = .ok (.goto 12, 3) := by decide +kernel
theorem dX1_inside_65 : decode cX1_inside 65 = .ok (.aload_n 0, 1) := by decide +kernel
theorem dX1_inside_66 : decode cX1_inside 66 = .ok (.getfield 49, 3) := by decide +kernel
theorem dX1_inside_69 : decode cX1_inside 69 = .ok (.iload_n 1, 1) := by decide +kernel
theorem dX1_inside_70 : decode cX1_inside 70 = .ok (.iload_n 2, 1) := by decide +kernel
theorem dX1_inside_71 : decode cX1_inside 71 = .ok (.invokevirtual 111, 3) := by decide +kernel
theorem dX1_inside_74 : decode cX1_inside 74 = .ok (.ireturn, 1) := by decide +kernel
set_option maxRecDepth 20000 in
theorem ggX1_could_X1_firstAbove : GoodIn wsX1_could wsX1_firstAbove := goodIn_r _ [5, 6, 7, 8, 9, 10, 4, 11, 12, 13, 14, 15, 16, 17, 18, 19, 20, 21, 22, 23, 24, 25, 26, 27, 28, 29, 30, 31, 32, 33, 34, 35, 36, 37, 38, 39, 40, 41, 42, 43, 44, 45, 46, 47, 48, 49, 50, 51, 52, 53, 54, 55, 56, 57, 58, 59, 60, 61, 62, 63, 64, 65, 66, 67, 68, 69, 70, 71, 72, 73, 74, 75, 76, 77, 78, 79, 80, 81, 82, 83, 84, 85, 86, 87, 88, 89, 90, 91, 92, 93, 94, 95, 96, 97, 98, 99, 100, 101, 102, 103, 104, 105, 106, 107, 108, 109, 110, 111, 112, 113, 114, 115, 116, 117, 118, 119, 120, 121, 122, 123, 124, 125, 126, 127, 128, 129, 130, 131, 132, 133, 134, 135, 136, 137] (by decide +kernel) (by decide +kernel)
set_option maxRecDepth 20000 in
theorem gX1_could_X1_firstAbove : GoodIn wsX1_could (wsV RX1 114 RX1 yX1_firstAbove wsX1_firstAbove) := goodIn_app (goodIn_of _ (by decide +kernel)) ggX1_could_X1_firstAbove
theorem dX1_could_0 : decode cX1_could 0 = .ok (.aload_n 0, 1) := by decide +kernel
theorem dX1_could_1 : decode cX1_could 1 = .ok (.iload_n 1, 1) := by decide +kernel
theorem dX1_could_2 : decode cX1_could 2 = .ok (.iconst 1, 1) := by decide +kernel
theorem dX1_could_3 : decode cX1_could 3 = .ok (.invokevirtual 114, 3) := by decide +kernel
theorem dX1_could_6 : decode cX1_could 6 = .ok (.ireturn, 1) := by decide +kernel
set_option maxRecDepth 20000 in
theorem ggX1_surely_X1_firstAbove : GoodIn wsX1_surely wsX1_firstAbove := goodIn_r _ [5, 6, 7, 8, 9, 10, 4, 11, 12, 13, 14, 15, 16, 17, 18, 19, 20, 21, 22, 23, 24, 25, 26, 27, 28, 29, 30, 31, 32, 33, 34, 35, 36, 37, 38, 39, 40, 41, 42, 43, 44, 45, 46, 47, 48, 49, 50, 51, 52, 53, 54, 55, 56, 57, 58, 59, 60, 61, 62, 63, 64, 65, 66, 67, 68, 69, 70, 71, 72, 73, 74, 75, 76, 77, 78, 79, 80, 81, 82, 83, 84, 85, 86, 87, 88, 89, 90, 91, 92, 93, 94, 95, 96, 97, 98, 99, 100, 101, 102, 103, 104, 105, 106, 107, 108, 109, 110, 111, 112, 113, 114, 115, 116, 117, 118, 119, 120, 121, 122, 123, 124, 125, 126, 127, 128, 129, 130, 131, 132, 133, 134, 135, 136, 137] (by decide +kernel) (by decide +kernel)
set_option maxRecDepth 20000 in
theorem gX1_surely_X1_firstAbove : GoodIn wsX1_surely (wsV RX1 114 RX1 yX1_firstAbove wsX1_firstAbove) := goodIn_app (goodIn_of _ (by decide +kernel)) ggX1_surely_X1_firstAbove
theorem dX1_surely_0 : decode cX1_surely 0 = .ok (.aload_n 0, 1) := by decide +kernel
theorem dX1_surely_1 : decode cX1_surely 1 = .ok (.iload_n 1, 1) := by decide +kernel
theorem dX1_surely_2 : decode cX1_surely 2 = .ok (.iconst 0, 1) := by decide +kernel
theorem dX1_surely_3 : decode cX1_surely 3 = .ok (.invokevirtual 114, 3) := by decide +kernel
theorem dX1_surely_6 : decode cX1_surely 6 = .ok (.ireturn, 1) := by decide +kernel
set_option maxRecDepth 20000 in
theorem ggX1_through_X1_isDoor : GoodIn wsX1_through wsX1_isDoor := goodIn_r _ [9, 10, 11, 12, 8, 13, 144, 145, 146, 147, 148, 149, 150, 151, 152, 153, 154, 155, 156, 157, 158, 159] (by decide +kernel) (by decide +kernel)
set_option maxRecDepth 20000 in
theorem gX1_through_X1_isDoor : GoodIn wsX1_through (wsV RX1 65 RX1 yX1_isDoor wsX1_isDoor) := goodIn_app (goodIn_of _ (by decide +kernel)) ggX1_through_X1_isDoor
set_option maxRecDepth 20000 in
theorem ggX1_through_X1_isTick : GoodIn wsX1_through wsX1_isTick := goodIn_r _ [17, 18, 11, 12, 8, 13, 144, 145, 146, 147, 148, 149, 150, 151, 152, 153, 154, 155, 156, 157, 158, 159] (by decide +kernel) (by decide +kernel)
set_option maxRecDepth 20000 in
theorem gX1_through_X1_isTick : GoodIn wsX1_through (wsV RX1 69 RX1 yX1_isTick wsX1_isTick) := goodIn_app (goodIn_of _ (by decide +kernel)) ggX1_through_X1_isTick
set_option maxRecDepth 20000 in
theorem ggX1_through_X1_lookAhead : GoodIn wsX1_through wsX1_lookAhead := goodIn_r _ [22, 23, 24, 25, 18, 26, 27, 28, 29, 30, 31, 32, 33, 34, 35, 36, 37, 38, 8, 39, 10, 40, 41, 42, 43, 44, 45, 46, 47, 48, 49, 50, 51, 52, 53, 54, 55, 56, 57, 58, 59, 60, 61, 62, 63, 64, 65, 66, 67, 68, 69, 70, 71, 72, 73, 74, 75, 76, 77, 78, 79, 80, 81, 82, 83, 84, 85, 86, 87, 88, 89, 90, 91, 92, 93, 94, 95, 96, 97, 98, 99, 100, 101, 102, 103, 104, 105, 106, 107, 108, 109, 110, 111, 112, 113, 114, 115, 116, 144, 145, 146, 147, 148, 149, 150, 151, 152, 153, 154, 155, 156, 157, 158, 159, 160, 161] (by decide +kernel) (by decide +kernel)
set_option maxRecDepth 20000 in
theorem gX1_through_X1_lookAhead : GoodIn wsX1_through (wsV RX1 89 RX1 yX1_lookAhead wsX1_lookAhead) := goodIn_app (goodIn_of _ (by decide +kernel)) ggX1_through_X1_lookAhead
set_option maxRecDepth 20000 in
theorem ggX1_through_X1_lookBackTo : GoodIn wsX1_through wsX1_lookBackTo := goodIn_r _ [120, 18, 23, 36, 37, 38, 8, 39, 10, 40, 26, 27, 28, 29, 30, 31, 32, 33, 34, 35, 41, 42, 43, 44, 45, 46, 47, 48, 49, 50, 51, 52, 53, 54, 55, 56, 57, 58, 59, 60, 61, 62, 63, 64, 65, 66, 67, 68, 69, 70, 71, 72, 73, 74, 75, 76, 121, 122, 123, 124, 81, 82, 83, 84, 85, 86, 87, 88, 112, 101, 102, 103, 104, 105, 106, 107, 108, 109, 110, 111, 113, 114, 115, 116, 144, 145, 146, 147, 148, 149, 150, 151, 152, 153, 154, 155, 156, 157, 158, 159, 160, 161] (by decide +kernel) (by decide +kernel)
set_option maxRecDepth 20000 in
theorem gX1_through_X1_lookBackTo : GoodIn wsX1_through (wsV RX1 105 RX1 yX1_lookBackTo wsX1_lookBackTo) := goodIn_app (goodIn_of _ (by decide +kernel)) ggX1_through_X1_lookBackTo
set_option maxRecDepth 20000 in
theorem ggX1_through_X1_gatherChange : GoodIn wsX1_through wsX1_gatherChange := goodIn_r _ [39, 23, 10, 40, 26, 27, 28, 29, 30, 31, 32, 33, 34, 35, 41, 42, 43, 8, 44, 45, 46, 47, 48, 49, 50, 51, 52, 53, 54, 55, 56, 57, 58, 59, 60, 61, 62, 63, 64, 65, 66, 67, 68, 69, 70, 71, 72, 73, 74, 75, 76, 144, 145, 146, 147, 148, 149, 150, 151, 152, 153, 154, 155, 156, 157, 158, 159, 160, 161] (by decide +kernel) (by decide +kernel)
set_option maxRecDepth 20000 in
theorem gX1_through_X1_gatherChange : GoodIn wsX1_through (wsV RX1 120 RX1 yX1_gatherChange wsX1_gatherChange) := goodIn_app (goodIn_of _ (by decide +kernel)) ggX1_through_X1_gatherChange
set_option maxRecDepth 20000 in
theorem ggX1_through_X1_mostThrough : GoodIn wsX1_through wsX1_mostThrough := goodIn_r _ [128, 40, 129, 106, 57, 107, 65, 66, 67, 8, 68, 45, 46, 47, 48, 49, 59, 60, 61, 62, 63, 64, 50, 51, 52, 53, 54, 55, 56, 58, 130, 131, 132, 133, 23, 134, 86, 87, 29, 88, 32, 33, 34, 35, 135, 82, 83, 84, 31, 136, 137, 138, 139, 144, 145, 146, 147, 148, 149, 150, 151, 152, 153, 154, 155, 156, 157, 158, 159, 160, 161] (by decide +kernel) (by decide +kernel)
set_option maxRecDepth 20000 in
theorem gX1_through_X1_mostThrough : GoodIn wsX1_through (wsV RX1 124 RX1 yX1_mostThrough wsX1_mostThrough) := goodIn_app (goodIn_of _ (by decide +kernel)) ggX1_through_X1_mostThrough
set_option maxRecDepth 20000 in
theorem ggX1_through_X1_leastThrough : GoodIn wsX1_through wsX1_leastThrough := goodIn_r _ [143, 40, 55, 56, 57, 58, 41, 42, 43, 8, 44, 45, 46, 47, 48, 49, 50, 51, 52, 53, 54, 59, 60, 61, 62, 63, 64, 136, 137, 138, 139, 23, 135, 82, 83, 29, 84, 31, 33, 34, 35, 134, 86, 87, 88, 32, 130, 131, 132, 133, 144, 145, 146, 147, 148, 149, 150, 151, 152, 153, 154, 155, 156, 157, 158, 159, 160, 161] (by decide +kernel) (by decide +kernel)
set_option maxRecDepth 20000 in
theorem gX1_through_X1_leastThrough : GoodIn wsX1_through (wsV RX1 127 RX1 yX1_leastThrough wsX1_leastThrough) := goodIn_app (goodIn_of _ (by decide +kernel)) ggX1_through_X1_leastThrough
theorem dX1_through_0 : decode cX1_through 0 = .ok (.aload_n 0, 1) := by decide +kernel
theorem dX1_through_1 : decode cX1_through 1 = .ok (.iload_n 1, 1) := by decide +kernel
theorem dX1_through_2 : decode cX1_through 2 = .ok (.invokevirtual 65, 3) := by decide +kernel
theorem dX1_through_5 : decode cX1_through 5 = .ok (.ifCond .eq 11, 3) := by decide +kernel
theorem dX1_through_8 : decode cX1_through 8 = .ok (.aload_n 0, 1) := by decide +kernel
theorem dX1_through_9 : decode cX1_through 9 = .ok (.iload_n 2, 1) := by decide +kernel
theorem dX1_through_10 : decode cX1_through 10 = .ok (.invokevirtual 69, 3) := by decide +kernel
theorem dX1_through_13 : decode cX1_through 13 = .ok (.ifCond .ne 13, 3) := by decide +kernel
theorem dX1_through_16 : decode cX1_through 16 = .ok (.new 93, 3) := by decide +kernel
theorem dX1_through_19 : decode cX1_through 19 = .ok (.dup, 1) := by decide +kernel
theorem dX1_through_20 : decode cX1_through 20 = .ok (.ldc 118, 2) := by decide +kernel
theorem dX1_through_22 : decode cX1_through 22 = .ok (.invokespecial 97, 3) := by decide +kernel
theorem dX1_through_25 : decode cX1_through 25 = .ok (.athrow, 1) := by decide +kernel
theorem dX1_through_26 : decode cX1_through 26 = .ok (.aload_n 0, 1) := by decide +kernel
theorem dX1_through_27 : decode cX1_through 27 = .ok (.iconst 0, 1) := by decide +kernel
theorem dX1_through_28 : decode cX1_through 28 = .ok (.invokevirtual 89, 3) := by decide +kernel
theorem dX1_through_31 : decode cX1_through 31 = .ok (.iconst (-1), 1) := by decide +kernel
theorem dX1_through_32 : decode cX1_through 32 = .ok (.if_icmp .eq 13, 3) := by decide +kernel
theorem dX1_through_35 : decode cX1_through 35 = .ok (.new 100, 3) := by decide +kernel
theorem dX1_through_38 : decode cX1_through 38 = .ok (.dup, 1) := by decide +kernel
theorem dX1_through_39 : decode cX1_through 39 = .ok (.ldc 102, 2) := by decide +kernel
theorem dX1_through_41 : decode cX1_through 41 = .ok (.invokespecial 104, 3) := by decide +kernel
theorem dX1_through_44 : decode cX1_through 44 = .ok (.athrow, 1) := by decide +kernel
theorem dX1_through_45 : decode cX1_through 45 = .ok (.aload_n 0, 1) := by decide +kernel
theorem dX1_through_46 : decode cX1_through 46 = .ok (.iload_n 2, 1) := by decide +kernel
theorem dX1_through_47 : decode cX1_through 47 = .ok (.iconst 1, 1) := by decide +kernel
theorem dX1_through_48 : decode cX1_through 48 = .ok (.iadd, 1) := by decide +kernel
theorem dX1_through_49 : decode cX1_through 49 = .ok (.invokevirtual 105, 3) := by decide +kernel
theorem dX1_through_52 : decode cX1_through 52 = .ok (.aload_n 0, 1) := by decide +kernel
theorem dX1_through_53 : decode cX1_through 53 = .ok (.iload_n 2, 1) := by decide +kernel
theorem dX1_through_54 : decode cX1_through 54 = .ok (.iconst 0, 1) := by decide +kernel
theorem dX1_through_55 : decode cX1_through 55 = .ok (.iload_n 1, 1) := by decide +kernel
theorem dX1_through_56 : decode cX1_through 56 = .ok (.invokevirtual 120, 3) := by decide +kernel
theorem dX1_through_59 : decode cX1_through 59 = .ok (.iload_n 3, 1) := by decide +kernel
theorem dX1_through_60 : decode cX1_through 60 = .ok (.ifCond .eq 12, 3) := by decide +kernel
theorem dX1_through_63 : decode cX1_through 63 = .ok (.aload_n 0, 1) := by decide +kernel
theorem dX1_through_64 : decode cX1_through 64 = .ok (.iload_n 1, 1) := by decide +kernel
theorem dX1_through_65 : decode cX1_through 65 = .ok (.iload_n 2, 1) := by decide +kernel
theorem dX1_through_66 : decode cX1_through 66 = .ok (.invokevirtual 124, 3) := by decide +kernel
theorem dX1_through_69 : decode cX1_through 69 = .ok (.goto 9, 3) := by decide +kernel
theorem dX1_through_72 : decode cX1_through 72 = .ok (.aload_n 0, 1) := by decide +kernel
theorem dX1_through_73 : decode cX1_through 73 = .ok (.iload_n 1, 1) := by decide +kernel
theorem dX1_through_74 : decode cX1_through 74 = .ok (.iload_n 2, 1) := by decide +kernel
theorem dX1_through_75 : decode cX1_through 75 = .ok (.invokevirtual 127, 3) := by decide +kernel
theorem dX1_through_78 : decode cX1_through 78 = .ok (.ireturn, 1) := by decide +kernel
set_option maxRecDepth 20000 in
theorem ggX1_worse_X1_lookAhead : GoodIn wsX1_worse wsX1_lookAhead := goodIn_r _ [5, 6, 7, 8, 9, 10, 11, 12, 13, 14, 15, 16, 17, 18, 19, 20, 21, 22, 4, 23, 24, 25, 26, 27, 28, 29, 30, 31, 32, 33, 34, 35, 36, 37, 38, 39, 40, 41, 42, 43, 44, 45, 46, 47, 48, 49, 50, 51, 52, 53, 54, 55, 56, 57, 58, 59, 60, 61, 62, 63, 64, 65, 66, 67, 68, 69, 70, 71, 72, 73, 74, 75, 76, 77, 78, 79, 80, 81, 82, 83, 84, 85, 86, 87, 88, 89, 90, 91, 92, 93, 94, 95, 96, 97, 98, 99, 100, 101, 102, 103, 104, 105, 106, 107, 108, 109, 110, 111, 112, 113, 114, 115, 116, 117, 118, 119] (by decide +kernel) (by decide +kernel)
set_option maxRecDepth 20000 in
theorem gX1_worse_X1_lookAhead : GoodIn wsX1_worse (wsV RX1 89 RX1 yX1_lookAhead wsX1_lookAhead) := goodIn_app (goodIn_of _ (by decide +kernel)) ggX1_worse_X1_lookAhead
theorem dX1_worse_0 : decode cX1_worse 0 = .ok (.iconst 0, 1) := by decide +kernel
theorem dX1_worse_1 : decode cX1_worse 1 = .ok (.istore_n 1, 1) := by decide +kernel
theorem dX1_worse_2 : decode cX1_worse 2 = .ok (.iload_n 1, 1) := by decide +kernel
theorem dX1_worse_3 : decode cX1_worse 3 = .ok (.iconst 5, 1) := by decide +kernel
theorem dX1_worse_4 : decode cX1_worse 4 = .ok (.if_icmp .gt 20, 3) := by decide +kernel
theorem dX1_worse_7 : decode cX1_worse 7 = .ok (.aload_n 0, 1) := by decide +kernel
theorem dX1_worse_8 : decode cX1_worse 8 = .ok (.iload_n 1, 1) := by decide +kernel
theorem dX1_worse_9 : decode cX1_worse 9 = .ok (.invokevirtual 89, 3) := by decide +kernel
theorem dX1_worse_12 : decode cX1_worse 12 = .ok (.iconst (-1), 1) := by decide +kernel
theorem dX1_worse_13 : decode cX1_worse 13 = .ok (.if_icmp .ne 5, 3) := by decide +kernel
theorem dX1_worse_16 : decode cX1_worse 16 = .ok (.iload_n 1, 1) := by decide +kernel
theorem dX1_worse_17 : decode cX1_worse 17 = .ok (.ireturn, 1) := by decide +kernel
theorem dX1_worse_18 : decode cX1_worse 18 = .ok (.iinc 1 1, 3) := by decide +kernel
theorem dX1_worse_21 : decode cX1_worse 21 = .ok (.goto (-19), 3) := by decide +kernel
theorem dX1_worse_24 : decode cX1_worse 24 = .ok (.iconst (-1), 1) := by decide +kernel
theorem dX1_worse_25 : decode cX1_worse 25 = .ok (.ireturn, 1) := by decide +kernel
set_option maxRecDepth 20000 in
theorem ggX1_quarrel_X1_lookAhead : GoodIn wsX1_quarrel wsX1_lookAhead := goodIn_r _ [5, 6, 7, 8, 9, 10, 11, 12, 13, 14, 15, 16, 17, 18, 19, 20, 21, 22, 4, 23, 24, 25, 26, 27, 28, 29, 30, 31, 32, 33, 34, 35, 36, 37, 38, 39, 40, 41, 42, 43, 44, 45, 46, 47, 48, 49, 50, 51, 52, 53, 54, 55, 56, 57, 58, 59, 60, 61, 62, 63, 64, 65, 66, 67, 68, 69, 70, 71, 72, 73, 74, 75, 76, 77, 78, 79, 80, 81, 82, 83, 84, 85, 86, 87, 88, 89, 90, 91, 92, 93, 94, 95, 96, 97, 98, 99, 100, 101, 102, 103, 104, 105, 106, 107, 108, 109, 110, 111, 112, 113, 114, 115, 116, 117, 118, 119] (by decide +kernel) (by decide +kernel)
set_option maxRecDepth 20000 in
theorem gX1_quarrel_X1_lookAhead : GoodIn wsX1_quarrel (wsV RX1 89 RX1 yX1_lookAhead wsX1_lookAhead) := goodIn_app (goodIn_of _ (by decide +kernel)) ggX1_quarrel_X1_lookAhead
theorem dX1_quarrel_0 : decode cX1_quarrel 0 = .ok (.aload_n 0, 1) := by decide +kernel
theorem dX1_quarrel_1 : decode cX1_quarrel 1 = .ok (.iconst 0, 1) := by decide +kernel
theorem dX1_quarrel_2 : decode cX1_quarrel 2 = .ok (.invokevirtual 89, 3) := by decide +kernel
theorem dX1_quarrel_5 : decode cX1_quarrel 5 = .ok (.ireturn, 1) := by decide +kernel
set_option maxRecDepth 20000 in
theorem ggX1_look_X1_isDoor : GoodIn wsX1_look wsX1_isDoor := goodIn_r _ [15, 16, 17, 18, 14, 19, 32, 33, 34, 35, 36, 37, 38, 39, 40, 41, 42, 43, 44, 45, 46, 47] (by decide +kernel) (by decide +kernel)
set_option maxRecDepth 20000 in
theorem gX1_look_X1_isDoor : GoodIn wsX1_look (wsV RX1 65 RX1 yX1_isDoor wsX1_isDoor) := goodIn_app (goodIn_of _ (by decide +kernel)) ggX1_look_X1_isDoor
set_option maxRecDepth 20000 in
theorem ggX1_look_X1_toldRows : GoodIn wsX1_look wsX1_toldRows := goodIn_r _ [23, 24, 9, 25, 26, 14, 27, 32, 33, 34, 35, 36, 37, 38, 39, 40, 41, 42, 43, 44, 45, 46, 47] (by decide +kernel) (by decide +kernel)
set_option maxRecDepth 20000 in
theorem gX1_look_X1_toldRows : GoodIn wsX1_look (wsV RX1 132 RX1 yX1_toldRows wsX1_toldRows) := goodIn_app (goodIn_of _ (by decide +kernel)) ggX1_look_X1_toldRows
set_option maxRecDepth 20000 in
theorem ggX1_look_X1_toldSum : GoodIn wsX1_look wsX1_toldSum := goodIn_r _ [31, 24, 25, 26, 14, 27, 32, 33, 34, 35, 36, 37, 38, 39, 40, 41, 42, 43, 44, 45, 46, 47] (by decide +kernel) (by decide +kernel)
set_option maxRecDepth 20000 in
theorem gX1_look_X1_toldSum : GoodIn wsX1_look (wsV RX1 135 RX1 yX1_toldSum wsX1_toldSum) := goodIn_app (goodIn_of _ (by decide +kernel)) ggX1_look_X1_toldSum
theorem dX1_look_0 : decode cX1_look 0 = .ok (.aload_n 0, 1) := by decide +kernel
theorem dX1_look_1 : decode cX1_look 1 = .ok (.iload_n 1, 1) := by decide +kernel
theorem dX1_look_2 : decode cX1_look 2 = .ok (.invokevirtual 65, 3) := by decide +kernel
theorem dX1_look_5 : decode cX1_look 5 = .ok (.ifCond .ne 13, 3) := by decide +kernel
theorem dX1_look_8 : decode cX1_look 8 = .ok (.new 93, 3) := by decide +kernel
theorem dX1_look_11 : decode cX1_look 11 = .ok (.dup, 1) := by decide +kernel
theorem dX1_look_12 : decode cX1_look 12 = .ok (.ldc 130, 2) := by decide +kernel
theorem dX1_look_14 : decode cX1_look 14 = .ok (.invokespecial 97, 3) := by decide +kernel
theorem dX1_look_17 : decode cX1_look 17 = .ok (.athrow, 1) := by decide +kernel
theorem dX1_look_18 : decode cX1_look 18 = .ok (.iload_n 2, 1) := by decide +kernel
theorem dX1_look_19 : decode cX1_look 19 = .ok (.tableswitch 95 0 6 #[41, 48, 55, 62, 69, 75, 85], 41) := by decide +kernel
theorem dX1_look_60 : decode cX1_look 60 = .ok (.aload_n 0, 1) := by decide +kernel
theorem dX1_look_61 : decode cX1_look 61 = .ok (.getfield 9, 3) := by decide +kernel
theorem dX1_look_64 : decode cX1_look 64 = .ok (.iload_n 1, 1) := by decide +kernel
theorem dX1_look_65 : decode cX1_look 65 = .ok (.iaload, 1) := by decide +kernel
theorem dX1_look_66 : decode cX1_look 66 = .ok (.ireturn, 1) := by decide +kernel
theorem dX1_look_67 : decode cX1_look 67 = .ok (.aload_n 0, 1) := by decide +kernel
theorem dX1_look_68 : decode cX1_look 68 = .ok (.getfield 13, 3) := by decide +kernel
theorem dX1_look_71 : decode cX1_look 71 = .ok (.iload_n 1, 1) := by decide +kernel
theorem dX1_look_72 : decode cX1_look 72 = .ok (.iaload, 1) := by decide +kernel
theorem dX1_look_73 : decode cX1_look 73 = .ok (.ireturn, 1) := by decide +kernel
theorem dX1_look_74 : decode cX1_look 74 = .ok (.aload_n 0, 1) := by decide +kernel
theorem dX1_look_75 : decode cX1_look 75 = .ok (.getfield 16, 3) := by decide +kernel
theorem dX1_look_78 : decode cX1_look 78 = .ok (.iload_n 1, 1) := by decide +kernel
theorem dX1_look_79 : decode cX1_look 79 = .ok (.iaload, 1) := by decide +kernel
theorem dX1_look_80 : decode cX1_look 80 = .ok (.ireturn, 1) := by decide +kernel
theorem dX1_look_81 : decode cX1_look 81 = .ok (.aload_n 0, 1) := by decide +kernel
theorem dX1_look_82 : decode cX1_look 82 = .ok (.getfield 19, 3) := by decide +kernel
theorem dX1_look_85 : decode cX1_look 85 = .ok (.iload_n 1, 1) := by decide +kernel
theorem dX1_look_86 : decode cX1_look 86 = .ok (.iaload, 1) := by decide +kernel
theorem dX1_look_87 : decode cX1_look 87 = .ok (.ireturn, 1) := by decide +kernel
theorem dX1_look_88 : decode cX1_look 88 = .ok (.aload_n 0, 1) := by decide +kernel
theorem dX1_look_89 : decode cX1_look 89 = .ok (.iload_n 1, 1) := by decide +kernel
theorem dX1_look_90 : decode cX1_look 90 = .ok (.invokevirtual 132, 3) := by decide +kernel
theorem dX1_look_93 : decode cX1_look 93 = .ok (.ireturn, 1) := by decide +kernel
theorem dX1_look_94 : decode cX1_look 94 = .ok (.aload_n 0, 1) := by decide +kernel
theorem dX1_look_95 : decode cX1_look 95 = .ok (.aload_n 0, 1) := by decide +kernel
theorem dX1_look_96 : decode cX1_look 96 = .ok (.getfield 22, 3) := by decide +kernel
theorem dX1_look_99 : decode cX1_look 99 = .ok (.iload_n 1, 1) := by decide +kernel
theorem dX1_look_100 : decode cX1_look 100 = .ok (.invokevirtual 135, 3) := by decide +kernel
theorem dX1_look_103 : decode cX1_look 103 = .ok (.ireturn, 1) := by decide +kernel
theorem dX1_look_104 : decode cX1_look 104 = .ok (.aload_n 0, 1) := by decide +kernel
theorem dX1_look_105 : decode cX1_look 105 = .ok (.aload_n 0, 1) := by decide +kernel
theorem dX1_look_106 : decode cX1_look 106 = .ok (.getfield 25, 3) := by decide +kernel
theorem dX1_look_109 : decode cX1_look 109 = .ok (.iload_n 1, 1) := by decide +kernel
theorem dX1_look_110 : decode cX1_look 110 = .ok (.invokevirtual 135, 3) := by decide +kernel
theorem dX1_look_113 : decode cX1_look 113 = .ok (.ireturn, 1) := by decide +kernel
theorem dX1_look_114 : decode cX1_look 114 = .ok (.new 100, 3) := by decide +kernel
theorem dX1_look_117 : decode cX1_look 117 = .ok (.dup, 1) := by decide +kernel
theorem dX1_look_118 : decode cX1_look 118 = .ok (.ldc 139, 2) := by decide +kernel
theorem dX1_look_120 : decode cX1_look 120 = .ok (.invokespecial 104, 3) := by decide +kernel
theorem dX1_look_123 : decode cX1_look 123 = .ok (.athrow, 1) := by decide +kernel
set_option maxRecDepth 20000 in
theorem ggX1_count_X1_allToldRows : GoodIn wsX1_count wsX1_allToldRows := goodIn_r _ [8, 2, 9, 10, 11, 7, 12, 1, 13, 14, 15, 16, 17, 18, 19, 20, 21, 22, 23, 24, 25, 26, 27, 28, 29, 30, 31, 32] (by decide +kernel) (by decide +kernel)
set_option maxRecDepth 20000 in
theorem gX1_count_X1_allToldRows : GoodIn wsX1_count (wsV RX1 144 RX1 yX1_allToldRows wsX1_allToldRows) := goodIn_app (goodIn_of _ (by decide +kernel)) ggX1_count_X1_allToldRows
theorem dX1_count_0 : decode cX1_count 0 = .ok (.iload_n 1, 1) := by decide +kernel
theorem dX1_count_1 : decode cX1_count 1 = .ok (.tableswitch 51 0 3 #[31, 36, 41, 46], 31) := by decide +kernel
theorem dX1_count_32 : decode cX1_count 32 = .ok (.aload_n 0, 1) := by decide +kernel
theorem dX1_count_33 : decode cX1_count 33 = .ok (.getfield 141, 3) := by decide +kernel
theorem dX1_count_36 : decode cX1_count 36 = .ok (.ireturn, 1) := by decide +kernel
theorem dX1_count_37 : decode cX1_count 37 = .ok (.aload_n 0, 1) := by decide +kernel
theorem dX1_count_38 : decode cX1_count 38 = .ok (.getfield 61, 3) := by decide +kernel
theorem dX1_count_41 : decode cX1_count 41 = .ok (.ireturn, 1) := by decide +kernel
theorem dX1_count_42 : decode cX1_count 42 = .ok (.aload_n 0, 1) := by decide +kernel
theorem dX1_count_43 : decode cX1_count 43 = .ok (.getfield 86, 3) := by decide +kernel
theorem dX1_count_46 : decode cX1_count 46 = .ok (.ireturn, 1) := by decide +kernel
theorem dX1_count_47 : decode cX1_count 47 = .ok (.aload_n 0, 1) := by decide +kernel
end
section
theorem dX1_count_48 : decode cX1_count 48 = .ok (.invokevirtual 144, 3) := by decide +kernel
theorem dX1_count_51 : decode cX1_count 51 = .ok (.ireturn, 1) := by decide +kernel
theorem dX1_count_52 : decode cX1_count 52 = .ok (.iconst (-1), 1) := by decide +kernel
theorem dX1_count_53 : decode cX1_count 53 = .ok (.ireturn, 1) := by decide +kernel
set_option maxRecDepth 20000 in
theorem ggX1_beginDay_J7_fill_53178 : GoodIn wsX1_beginDay wsJ7_fill_53178 := goodIn_r _ [11] (by decide +kernel) (by decide +kernel)
set_option maxRecDepth 20000 in
theorem gX1_beginDay_J7_fill_53178 : GoodIn wsX1_beginDay (va_wsS RX1 148 yJ7_fill_53178 wsJ7_fill_53178) := goodIn_app (goodIn_of _ (by decide +kernel)) ggX1_beginDay_J7_fill_53178
theorem dX1_beginDay_0 : decode cX1_beginDay 0 = .ok (.aload_n 0, 1) := by decide +kernel
theorem dX1_beginDay_1 : decode cX1_beginDay 1 = .ok (.iload_n 1, 1) := by decide +kernel
theorem dX1_beginDay_2 : decode cX1_beginDay 2 = .ok (.putfield 141, 3) := by decide +kernel
theorem dX1_beginDay_5 : decode cX1_beginDay 5 = .ok (.aload_n 0, 1) := by decide +kernel
theorem dX1_beginDay_6 : decode cX1_beginDay 6 = .ok (.iconst 0, 1) := by decide +kernel
theorem dX1_beginDay_7 : decode cX1_beginDay 7 = .ok (.putfield 61, 3) := by decide +kernel
theorem dX1_beginDay_10 : decode cX1_beginDay 10 = .ok (.aload_n 0, 1) := by decide +kernel
theorem dX1_beginDay_11 : decode cX1_beginDay 11 = .ok (.iconst 0, 1) := by decide +kernel
theorem dX1_beginDay_12 : decode cX1_beginDay 12 = .ok (.putfield 86, 3) := by decide +kernel
theorem dX1_beginDay_15 : decode cX1_beginDay 15 = .ok (.aload_n 0, 1) := by decide +kernel
theorem dX1_beginDay_16 : decode cX1_beginDay 16 = .ok (.getfield 22, 3) := by decide +kernel
theorem dX1_beginDay_19 : decode cX1_beginDay 19 = .ok (.iconst (-1), 1) := by decide +kernel
theorem dX1_beginDay_20 : decode cX1_beginDay 20 = .ok (.invokestatic 148, 3) := by decide +kernel
theorem dX1_beginDay_23 : decode cX1_beginDay 23 = .ok (.aload_n 0, 1) := by decide +kernel
theorem dX1_beginDay_24 : decode cX1_beginDay 24 = .ok (.getfield 25, 3) := by decide +kernel
theorem dX1_beginDay_27 : decode cX1_beginDay 27 = .ok (.iconst (-1), 1) := by decide +kernel
theorem dX1_beginDay_28 : decode cX1_beginDay 28 = .ok (.invokestatic 148, 3) := by decide +kernel
theorem dX1_beginDay_31 : decode cX1_beginDay 31 = .ok (.aload_n 0, 1) := by decide +kernel
theorem dX1_beginDay_32 : decode cX1_beginDay 32 = .ok (.getfield 28, 3) := by decide +kernel
theorem dX1_beginDay_35 : decode cX1_beginDay 35 = .ok (.iconst 0, 1) := by decide +kernel
theorem dX1_beginDay_36 : decode cX1_beginDay 36 = .ok (.invokestatic 148, 3) := by decide +kernel
theorem dX1_beginDay_39 : decode cX1_beginDay 39 = .ok (.aload_n 0, 1) := by decide +kernel
theorem dX1_beginDay_40 : decode cX1_beginDay 40 = .ok (.getfield 31, 3) := by decide +kernel
theorem dX1_beginDay_43 : decode cX1_beginDay 43 = .ok (.iconst 0, 1) := by decide +kernel
theorem dX1_beginDay_44 : decode cX1_beginDay 44 = .ok (.invokestatic 148, 3) := by decide +kernel
theorem dX1_beginDay_47 : decode cX1_beginDay 47 = .ok (.return_, 1) := by decide +kernel
theorem dX1_within_0 : decode cX1_within 0 = .ok (.iload_n 1, 1) := by decide +kernel
theorem dX1_within_1 : decode cX1_within 1 = .ok (.iload_n 0, 1) := by decide +kernel
theorem dX1_within_2 : decode cX1_within 2 = .ok (.if_icmp .gt 12, 3) := by decide +kernel
theorem dX1_within_5 : decode cX1_within 5 = .ok (.iload_n 0, 1) := by decide +kernel
theorem dX1_within_6 : decode cX1_within 6 = .ok (.iload_n 2, 1) := by decide +kernel
theorem dX1_within_7 : decode cX1_within 7 = .ok (.if_icmp .gt 7, 3) := by decide +kernel
theorem dX1_within_10 : decode cX1_within 10 = .ok (.iconst 1, 1) := by decide +kernel
theorem dX1_within_11 : decode cX1_within 11 = .ok (.goto 4, 3) := by decide +kernel
theorem dX1_within_14 : decode cX1_within 14 = .ok (.iconst 0, 1) := by decide +kernel
theorem dX1_within_15 : decode cX1_within 15 = .ok (.ireturn, 1) := by decide +kernel
set_option maxRecDepth 20000 in
theorem ggX1_isDoor_X1_within : GoodIn wsX1_isDoor wsX1_within := goodIn_r _ [5] (by decide +kernel) (by decide +kernel)
set_option maxRecDepth 20000 in
theorem gX1_isDoor_X1_within : GoodIn wsX1_isDoor (va_wsS RX1 57 yX1_within wsX1_within) := goodIn_app (goodIn_of _ (by decide +kernel)) ggX1_isDoor_X1_within
theorem dX1_isDoor_0 : decode cX1_isDoor 0 = .ok (.iload_n 1, 1) := by decide +kernel
theorem dX1_isDoor_1 : decode cX1_isDoor 1 = .ok (.iconst 0, 1) := by decide +kernel
theorem dX1_isDoor_2 : decode cX1_isDoor 2 = .ok (.aload_n 0, 1) := by decide +kernel
theorem dX1_isDoor_3 : decode cX1_isDoor 3 = .ok (.getfield 61, 3) := by decide +kernel
theorem dX1_isDoor_6 : decode cX1_isDoor 6 = .ok (.iconst 1, 1) := by decide +kernel
theorem dX1_isDoor_7 : decode cX1_isDoor 7 = .ok (.isub, 1) := by decide +kernel
theorem dX1_isDoor_8 : decode cX1_isDoor 8 = .ok (.invokestatic 57, 3) := by decide +kernel
theorem dX1_isDoor_11 : decode cX1_isDoor 11 = .ok (.ireturn, 1) := by decide +kernel
set_option maxRecDepth 20000 in
theorem ggX1_isTick_X1_within : GoodIn wsX1_isTick wsX1_within := goodIn_r _ [5] (by decide +kernel) (by decide +kernel)
set_option maxRecDepth 20000 in
theorem gX1_isTick_X1_within : GoodIn wsX1_isTick (va_wsS RX1 57 yX1_within wsX1_within) := goodIn_app (goodIn_of _ (by decide +kernel)) ggX1_isTick_X1_within
theorem dX1_isTick_0 : decode cX1_isTick 0 = .ok (.iload_n 1, 1) := by decide +kernel
theorem dX1_isTick_1 : decode cX1_isTick 1 = .ok (.iconst 0, 1) := by decide +kernel
theorem dX1_isTick_2 : decode cX1_isTick 2 = .ok (.aload_n 0, 1) := by decide +kernel
theorem dX1_isTick_3 : decode cX1_isTick 3 = .ok (.getfield 141, 3) := by decide +kernel
theorem dX1_isTick_6 : decode cX1_isTick 6 = .ok (.iconst 1, 1) := by decide +kernel
theorem dX1_isTick_7 : decode cX1_isTick 7 = .ok (.isub, 1) := by decide +kernel
theorem dX1_isTick_8 : decode cX1_isTick 8 = .ok (.invokestatic 57, 3) := by decide +kernel
theorem dX1_isTick_11 : decode cX1_isTick 11 = .ok (.ireturn, 1) := by decide +kernel
set_option maxRecDepth 20000 in
theorem ggX1_isTime_X1_within : GoodIn wsX1_isTime wsX1_within := goodIn_r _ [5] (by decide +kernel) (by decide +kernel)
set_option maxRecDepth 20000 in
theorem gX1_isTime_X1_within : GoodIn wsX1_isTime (va_wsS RX1 57 yX1_within wsX1_within) := goodIn_app (goodIn_of _ (by decide +kernel)) ggX1_isTime_X1_within
theorem dX1_isTime_0 : decode cX1_isTime 0 = .ok (.iload_n 1, 1) := by decide +kernel
theorem dX1_isTime_1 : decode cX1_isTime 1 = .ok (.iconst 0, 1) := by decide +kernel
theorem dX1_isTime_2 : decode cX1_isTime 2 = .ok (.aload_n 0, 1) := by decide +kernel
theorem dX1_isTime_3 : decode cX1_isTime 3 = .ok (.getfield 141, 3) := by decide +kernel
theorem dX1_isTime_6 : decode cX1_isTime 6 = .ok (.invokestatic 57, 3) := by decide +kernel
theorem dX1_isTime_9 : decode cX1_isTime 9 = .ok (.ireturn, 1) := by decide +kernel
set_option maxRecDepth 20000 in
theorem ggX1_isWhat_X1_within : GoodIn wsX1_isWhat wsX1_within := goodIn_r _ [4] (by decide +kernel) (by decide +kernel)
set_option maxRecDepth 20000 in
theorem gX1_isWhat_X1_within : GoodIn wsX1_isWhat (va_wsS RX1 57 yX1_within wsX1_within) := goodIn_app (goodIn_of _ (by decide +kernel)) ggX1_isWhat_X1_within
theorem dX1_isWhat_0 : decode cX1_isWhat 0 = .ok (.iload_n 0, 1) := by decide +kernel
theorem dX1_isWhat_1 : decode cX1_isWhat 1 = .ok (.iconst 0, 1) := by decide +kernel
theorem dX1_isWhat_2 : decode cX1_isWhat 2 = .ok (.iconst 2, 1) := by decide +kernel
theorem dX1_isWhat_3 : decode cX1_isWhat 3 = .ok (.invokestatic 57, 3) := by decide +kernel
theorem dX1_isWhat_6 : decode cX1_isWhat 6 = .ok (.ireturn, 1) := by decide +kernel
theorem dX1_isSpanInside_0 : decode cX1_isSpanInside 0 = .ok (.iconst 0, 1) := by decide +kernel
theorem dX1_isSpanInside_1 : decode cX1_isSpanInside 1 = .ok (.iload_n 0, 1) := by decide +kernel
theorem dX1_isSpanInside_2 : decode cX1_isSpanInside 2 = .ok (.if_icmp .gt 19, 3) := by decide +kernel
theorem dX1_isSpanInside_5 : decode cX1_isSpanInside 5 = .ok (.iload_n 0, 1) := by decide +kernel
theorem dX1_isSpanInside_6 : decode cX1_isSpanInside 6 = .ok (.iload_n 1, 1) := by decide +kernel
theorem dX1_isSpanInside_7 : decode cX1_isSpanInside 7 = .ok (.if_icmp .gt 14, 3) := by decide +kernel
theorem dX1_isSpanInside_10 : decode cX1_isSpanInside 10 = .ok (.iload_n 1, 1) := by decide +kernel
theorem dX1_isSpanInside_11 : decode cX1_isSpanInside 11 = .ok (.sipush 9999, 3) := by decide +kernel
theorem dX1_isSpanInside_14 : decode cX1_isSpanInside 14 = .ok (.if_icmp .gt 7, 3) := by decide +kernel
theorem dX1_isSpanInside_17 : decode cX1_isSpanInside 17 = .ok (.iconst 1, 1) := by decide +kernel
theorem dX1_isSpanInside_18 : decode cX1_isSpanInside 18 = .ok (.goto 4, 3) := by decide +kernel
theorem dX1_isSpanInside_21 : decode cX1_isSpanInside 21 = .ok (.iconst 0, 1) := by decide +kernel
theorem dX1_isSpanInside_22 : decode cX1_isSpanInside 22 = .ok (.ireturn, 1) := by decide +kernel
theorem dX1_place_0 : decode cX1_place 0 = .ok (.iload_n 0, 1) := by decide +kernel
theorem dX1_place_1 : decode cX1_place 1 = .ok (.bipush 60, 2) := by decide +kernel
theorem dX1_place_3 : decode cX1_place 3 = .ok (.imul, 1) := by decide +kernel
theorem dX1_place_4 : decode cX1_place 4 = .ok (.iload_n 1, 1) := by decide +kernel
theorem dX1_place_5 : decode cX1_place 5 = .ok (.iadd, 1) := by decide +kernel
theorem dX1_place_6 : decode cX1_place 6 = .ok (.ireturn, 1) := by decide +kernel
set_option maxRecDepth 20000 in
theorem ggX1_toldRows_X1_place : GoodIn wsX1_toldRows wsX1_place := goodIn_r _ [6] (by decide +kernel) (by decide +kernel)
set_option maxRecDepth 20000 in
theorem gX1_toldRows_X1_place : GoodIn wsX1_toldRows (va_wsS RX1 72 yX1_place wsX1_place) := goodIn_app (goodIn_of _ (by decide +kernel)) ggX1_toldRows_X1_place
theorem dX1_toldRows_0 : decode cX1_toldRows 0 = .ok (.iconst 0, 1) := by decide +kernel
theorem dX1_toldRows_1 : decode cX1_toldRows 1 = .ok (.istore_n 2, 1) := by decide +kernel
theorem dX1_toldRows_2 : decode cX1_toldRows 2 = .ok (.iconst 0, 1) := by decide +kernel
theorem dX1_toldRows_3 : decode cX1_toldRows 3 = .ok (.istore_n 3, 1) := by decide +kernel
theorem dX1_toldRows_4 : decode cX1_toldRows 4 = .ok (.iload_n 3, 1) := by decide +kernel
theorem dX1_toldRows_5 : decode cX1_toldRows 5 = .ok (.aload_n 0, 1) := by decide +kernel
theorem dX1_toldRows_6 : decode cX1_toldRows 6 = .ok (.getfield 141, 3) := by decide +kernel
theorem dX1_toldRows_9 : decode cX1_toldRows 9 = .ok (.if_icmp .ge 26, 3) := by decide +kernel
theorem dX1_toldRows_12 : decode cX1_toldRows 12 = .ok (.aload_n 0, 1) := by decide +kernel
theorem dX1_toldRows_13 : decode cX1_toldRows 13 = .ok (.getfield 22, 3) := by decide +kernel
theorem dX1_toldRows_16 : decode cX1_toldRows 16 = .ok (.iload_n 1, 1) := by decide +kernel
theorem dX1_toldRows_17 : decode cX1_toldRows 17 = .ok (.iload_n 3, 1) := by decide +kernel
theorem dX1_toldRows_18 : decode cX1_toldRows 18 = .ok (.invokestatic 72, 3) := by decide +kernel
theorem dX1_toldRows_21 : decode cX1_toldRows 21 = .ok (.iaload, 1) := by decide +kernel
theorem dX1_toldRows_22 : decode cX1_toldRows 22 = .ok (.iconst (-1), 1) := by decide +kernel
theorem dX1_toldRows_23 : decode cX1_toldRows 23 = .ok (.if_icmp .eq 6, 3) := by decide +kernel
theorem dX1_toldRows_26 : decode cX1_toldRows 26 = .ok (.iinc 2 1, 3) := by decide +kernel
theorem dX1_toldRows_29 : decode cX1_toldRows 29 = .ok (.iinc 3 1, 3) := by decide +kernel
theorem dX1_toldRows_32 : decode cX1_toldRows 32 = .ok (.goto (-28), 3) := by decide +kernel
theorem dX1_toldRows_35 : decode cX1_toldRows 35 = .ok (.iload_n 2, 1) := by decide +kernel
theorem dX1_toldRows_36 : decode cX1_toldRows 36 = .ok (.ireturn, 1) := by decide +kernel
set_option maxRecDepth 20000 in
theorem ggX1_allToldRows_X1_toldRows : GoodIn wsX1_allToldRows wsX1_toldRows := goodIn_r _ [6, 7, 8, 9, 10, 5, 11, 12, 13, 14, 15, 16, 17, 18, 19, 20, 21, 22, 23, 24, 25, 26, 27] (by decide +kernel) (by decide +kernel)
set_option maxRecDepth 20000 in
theorem gX1_allToldRows_X1_toldRows : GoodIn wsX1_allToldRows (wsV RX1 132 RX1 yX1_toldRows wsX1_toldRows) := goodIn_app (goodIn_of _ (by decide +kernel)) ggX1_allToldRows_X1_toldRows
theorem dX1_allToldRows_0 : decode cX1_allToldRows 0 = .ok (.iconst 0, 1) := by decide +kernel
theorem dX1_allToldRows_1 : decode cX1_allToldRows 1 = .ok (.istore_n 1, 1) := by decide +kernel
theorem dX1_allToldRows_2 : decode cX1_allToldRows 2 = .ok (.iconst 0, 1) := by decide +kernel
theorem dX1_allToldRows_3 : decode cX1_allToldRows 3 = .ok (.istore_n 2, 1) := by decide +kernel
theorem dX1_allToldRows_4 : decode cX1_allToldRows 4 = .ok (.iload_n 2, 1) := by decide +kernel
theorem dX1_allToldRows_5 : decode cX1_allToldRows 5 = .ok (.aload_n 0, 1) := by decide +kernel
theorem dX1_allToldRows_6 : decode cX1_allToldRows 6 = .ok (.getfield 61, 3) := by decide +kernel
theorem dX1_allToldRows_9 : decode cX1_allToldRows 9 = .ok (.if_icmp .ge 17, 3) := by decide +kernel
theorem dX1_allToldRows_12 : decode cX1_allToldRows 12 = .ok (.iload_n 1, 1) := by decide +kernel
theorem dX1_allToldRows_13 : decode cX1_allToldRows 13 = .ok (.aload_n 0, 1) := by decide +kernel
theorem dX1_allToldRows_14 : decode cX1_allToldRows 14 = .ok (.iload_n 2, 1) := by decide +kernel
theorem dX1_allToldRows_15 : decode cX1_allToldRows 15 = .ok (.invokevirtual 132, 3) := by decide +kernel
theorem dX1_allToldRows_18 : decode cX1_allToldRows 18 = .ok (.iadd, 1) := by decide +kernel
theorem dX1_allToldRows_19 : decode cX1_allToldRows 19 = .ok (.istore_n 1, 1) := by decide +kernel
theorem dX1_allToldRows_20 : decode cX1_allToldRows 20 = .ok (.iinc 2 1, 3) := by decide +kernel
theorem dX1_allToldRows_23 : decode cX1_allToldRows 23 = .ok (.goto (-19), 3) := by decide +kernel
theorem dX1_allToldRows_26 : decode cX1_allToldRows 26 = .ok (.iload_n 1, 1) := by decide +kernel
theorem dX1_allToldRows_27 : decode cX1_allToldRows 27 = .ok (.ireturn, 1) := by decide +kernel
set_option maxRecDepth 20000 in
theorem ggX1_toldSum_X1_place : GoodIn wsX1_toldSum wsX1_place := goodIn_r _ [5] (by decide +kernel) (by decide +kernel)
set_option maxRecDepth 20000 in
theorem gX1_toldSum_X1_place : GoodIn wsX1_toldSum (va_wsS RX1 72 yX1_place wsX1_place) := goodIn_app (goodIn_of _ (by decide +kernel)) ggX1_toldSum_X1_place
theorem dX1_toldSum_0 : decode cX1_toldSum 0 = .ok (.iconst 0, 1) := by decide +kernel
theorem dX1_toldSum_1 : decode cX1_toldSum 1 = .ok (.istore_n 3, 1) := by decide +kernel
theorem dX1_toldSum_2 : decode cX1_toldSum 2 = .ok (.iconst 0, 1) := by decide +kernel
theorem dX1_toldSum_3 : decode cX1_toldSum 3 = .ok (.istore 4, 2) := by decide +kernel
theorem dX1_toldSum_5 : decode cX1_toldSum 5 = .ok (.iload 4, 2) := by decide +kernel
theorem dX1_toldSum_7 : decode cX1_toldSum 7 = .ok (.aload_n 0, 1) := by decide +kernel
theorem dX1_toldSum_8 : decode cX1_toldSum 8 = .ok (.getfield 141, 3) := by decide +kernel
theorem dX1_toldSum_11 : decode cX1_toldSum 11 = .ok (.if_icmp .ge 30, 3) := by decide +kernel
theorem dX1_toldSum_14 : decode cX1_toldSum 14 = .ok (.aload_n 1, 1) := by decide +kernel
theorem dX1_toldSum_15 : decode cX1_toldSum 15 = .ok (.iload_n 2, 1) := by decide +kernel
theorem dX1_toldSum_16 : decode cX1_toldSum 16 = .ok (.iload 4, 2) := by decide +kernel
theorem dX1_toldSum_18 : decode cX1_toldSum 18 = .ok (.invokestatic 72, 3) := by decide +kernel
theorem dX1_toldSum_21 : decode cX1_toldSum 21 = .ok (.iaload, 1) := by decide +kernel
theorem dX1_toldSum_22 : decode cX1_toldSum 22 = .ok (.istore 5, 2) := by decide +kernel
theorem dX1_toldSum_24 : decode cX1_toldSum 24 = .ok (.iload 5, 2) := by decide +kernel
theorem dX1_toldSum_26 : decode cX1_toldSum 26 = .ok (.iconst (-1), 1) := by decide +kernel
theorem dX1_toldSum_27 : decode cX1_toldSum 27 = .ok (.if_icmp .eq 8, 3) := by decide +kernel
theorem dX1_toldSum_30 : decode cX1_toldSum 30 = .ok (.iload_n 3, 1) := by decide +kernel
theorem dX1_toldSum_31 : decode cX1_toldSum 31 = .ok (.iload 5, 2) := by decide +kernel
theorem dX1_toldSum_33 : decode cX1_toldSum 33 = .ok (.iadd, 1) := by decide +kernel
theorem dX1_toldSum_34 : decode cX1_toldSum 34 = .ok (.istore_n 3, 1) := by decide +kernel
theorem dX1_toldSum_35 : decode cX1_toldSum 35 = .ok (.iinc 4 1, 3) := by decide +kernel
theorem dX1_toldSum_38 : decode cX1_toldSum 38 = .ok (.goto (-33), 3) := by decide +kernel
theorem dX1_toldSum_41 : decode cX1_toldSum 41 = .ok (.iload_n 3, 1) := by decide +kernel
theorem dX1_toldSum_42 : decode cX1_toldSum 42 = .ok (.ireturn, 1) := by decide +kernel
theorem dX1_leastPassed_0 : decode cX1_leastPassed 0 = .ok (.iload_n 1, 1) := by decide +kernel
theorem dX1_leastPassed_1 : decode cX1_leastPassed 1 = .ok (.iconst (-1), 1) := by decide +kernel
theorem dX1_leastPassed_2 : decode cX1_leastPassed 2 = .ok (.if_icmp .ne 7, 3) := by decide +kernel
theorem dX1_leastPassed_5 : decode cX1_leastPassed 5 = .ok (.iconst 0, 1) := by decide +kernel
theorem dX1_leastPassed_6 : decode cX1_leastPassed 6 = .ok (.goto 17, 3) := by decide +kernel
theorem dX1_leastPassed_9 : decode cX1_leastPassed 9 = .ok (.iconst 0, 1) := by decide +kernel
theorem dX1_leastPassed_10 : decode cX1_leastPassed 10 = .ok (.iload_n 1, 1) := by decide +kernel
theorem dX1_leastPassed_11 : decode cX1_leastPassed 11 = .ok (.aload_n 0, 1) := by decide +kernel
theorem dX1_leastPassed_12 : decode cX1_leastPassed 12 = .ok (.getfield 16, 3) := by decide +kernel
theorem dX1_leastPassed_15 : decode cX1_leastPassed 15 = .ok (.iload_n 2, 1) := by decide +kernel
theorem dX1_leastPassed_16 : decode cX1_leastPassed 16 = .ok (.iaload, 1) := by decide +kernel
theorem dX1_leastPassed_17 : decode cX1_leastPassed 17 = .ok (.isub, 1) := by decide +kernel
theorem dX1_leastPassed_18 : decode cX1_leastPassed 18 = .ok (.iload_n 3, 1) := by decide +kernel
theorem dX1_leastPassed_19 : decode cX1_leastPassed 19 = .ok (.isub, 1) := by decide +kernel
theorem dX1_leastPassed_20 : decode cX1_leastPassed 20 = .ok (.invokestatic 154, 3) := by decide +kernel
theorem dX1_leastPassed_23 : decode cX1_leastPassed 23 = .ok (.ireturn, 1) := by decide +kernel
theorem dX1_mostPassed_0 : decode cX1_mostPassed 0 = .ok (.iload_n 1, 1) := by decide +kernel
theorem dX1_mostPassed_1 : decode cX1_mostPassed 1 = .ok (.iconst (-1), 1) := by decide +kernel
theorem dX1_mostPassed_2 : decode cX1_mostPassed 2 = .ok (.if_icmp .ne 12, 3) := by decide +kernel
theorem dX1_mostPassed_5 : decode cX1_mostPassed 5 = .ok (.aload_n 0, 1) := by decide +kernel
theorem dX1_mostPassed_6 : decode cX1_mostPassed 6 = .ok (.getfield 19, 3) := by decide +kernel
theorem dX1_mostPassed_9 : decode cX1_mostPassed 9 = .ok (.iload_n 2, 1) := by decide +kernel
theorem dX1_mostPassed_10 : decode cX1_mostPassed 10 = .ok (.iaload, 1) := by decide +kernel
theorem dX1_mostPassed_11 : decode cX1_mostPassed 11 = .ok (.goto 13, 3) := by decide +kernel
theorem dX1_mostPassed_14 : decode cX1_mostPassed 14 = .ok (.iload_n 1, 1) := by decide +kernel
theorem dX1_mostPassed_15 : decode cX1_mostPassed 15 = .ok (.aload_n 0, 1) := by decide +kernel
theorem dX1_mostPassed_16 : decode cX1_mostPassed 16 = .ok (.getfield 13, 3) := by decide +kernel
theorem dX1_mostPassed_19 : decode cX1_mostPassed 19 = .ok (.iload_n 2, 1) := by decide +kernel
theorem dX1_mostPassed_20 : decode cX1_mostPassed 20 = .ok (.iaload, 1) := by decide +kernel
theorem dX1_mostPassed_21 : decode cX1_mostPassed 21 = .ok (.iadd, 1) := by decide +kernel
theorem dX1_mostPassed_22 : decode cX1_mostPassed 22 = .ok (.iload_n 3, 1) := by decide +kernel
theorem dX1_mostPassed_23 : decode cX1_mostPassed 23 = .ok (.iadd, 1) := by decide +kernel
theorem dX1_mostPassed_24 : decode cX1_mostPassed 24 = .ok (.ireturn, 1) := by decide +kernel
set_option maxRecDepth 20000 in
theorem ggX1_leastNet_X1_place : GoodIn wsX1_leastNet wsX1_place := goodIn_r _ [6] (by decide +kernel) (by decide +kernel)
set_option maxRecDepth 20000 in
theorem gX1_leastNet_X1_place : GoodIn wsX1_leastNet (va_wsS RX1 72 yX1_place wsX1_place) := goodIn_app (goodIn_of _ (by decide +kernel)) ggX1_leastNet_X1_place
set_option maxRecDepth 20000 in
theorem ggX1_leastNet_X1_leastPassed : GoodIn wsX1_leastNet wsX1_leastPassed := goodIn_r _ [10, 11, 12, 13, 14, 15, 22, 23, 24, 25, 26, 27, 28, 29, 30, 31, 32, 33, 34, 35, 36, 37] (by decide +kernel) (by decide +kernel)
set_option maxRecDepth 20000 in
theorem gX1_leastNet_X1_leastPassed : GoodIn wsX1_leastNet (wsV RX1 159 RX1 yX1_leastPassed wsX1_leastPassed) := goodIn_app (goodIn_of _ (by decide +kernel)) ggX1_leastNet_X1_leastPassed
set_option maxRecDepth 20000 in
theorem ggX1_leastNet_X1_mostPassed : GoodIn wsX1_leastNet wsX1_mostPassed := goodIn_r _ [19, 20, 21, 22, 23, 24, 25, 26, 27, 28, 29, 30, 31, 32, 33, 34, 35, 36, 37] (by decide +kernel) (by decide +kernel)
set_option maxRecDepth 20000 in
theorem gX1_leastNet_X1_mostPassed : GoodIn wsX1_leastNet (wsV RX1 163 RX1 yX1_mostPassed wsX1_mostPassed) := goodIn_app (goodIn_of _ (by decide +kernel)) ggX1_leastNet_X1_mostPassed
theorem dX1_leastNet_0 : decode cX1_leastNet 0 = .ok (.iload_n 1, 1) := by decide +kernel
theorem dX1_leastNet_1 : decode cX1_leastNet 1 = .ok (.iload_n 2, 1) := by decide +kernel
theorem dX1_leastNet_2 : decode cX1_leastNet 2 = .ok (.invokestatic 72, 3) := by decide +kernel
theorem dX1_leastNet_5 : decode cX1_leastNet 5 = .ok (.istore 4, 2) := by decide +kernel
theorem dX1_leastNet_7 : decode cX1_leastNet 7 = .ok (.aload_n 0, 1) := by decide +kernel
theorem dX1_leastNet_8 : decode cX1_leastNet 8 = .ok (.aload_n 0, 1) := by decide +kernel
theorem dX1_leastNet_9 : decode cX1_leastNet 9 = .ok (.getfield 22, 3) := by decide +kernel
theorem dX1_leastNet_12 : decode cX1_leastNet 12 = .ok (.iload 4, 2) := by decide +kernel
theorem dX1_leastNet_14 : decode cX1_leastNet 14 = .ok (.iaload, 1) := by decide +kernel
theorem dX1_leastNet_15 : decode cX1_leastNet 15 = .ok (.iload_n 1, 1) := by decide +kernel
theorem dX1_leastNet_16 : decode cX1_leastNet 16 = .ok (.iload_n 3, 1) := by decide +kernel
theorem dX1_leastNet_17 : decode cX1_leastNet 17 = .ok (.invokevirtual 159, 3) := by decide +kernel
theorem dX1_leastNet_20 : decode cX1_leastNet 20 = .ok (.aload_n 0, 1) := by decide +kernel
theorem dX1_leastNet_21 : decode cX1_leastNet 21 = .ok (.aload_n 0, 1) := by decide +kernel
theorem dX1_leastNet_22 : decode cX1_leastNet 22 = .ok (.getfield 25, 3) := by decide +kernel
theorem dX1_leastNet_25 : decode cX1_leastNet 25 = .ok (.iload 4, 2) := by decide +kernel
theorem dX1_leastNet_27 : decode cX1_leastNet 27 = .ok (.iaload, 1) := by decide +kernel
theorem dX1_leastNet_28 : decode cX1_leastNet 28 = .ok (.iload_n 1, 1) := by decide +kernel
theorem dX1_leastNet_29 : decode cX1_leastNet 29 = .ok (.iload_n 3, 1) := by decide +kernel
theorem dX1_leastNet_30 : decode cX1_leastNet 30 = .ok (.invokevirtual 163, 3) := by decide +kernel
theorem dX1_leastNet_33 : decode cX1_leastNet 33 = .ok (.isub, 1) := by decide +kernel
theorem dX1_leastNet_34 : decode cX1_leastNet 34 = .ok (.ireturn, 1) := by decide +kernel
set_option maxRecDepth 20000 in
theorem ggX1_mostNet_X1_place : GoodIn wsX1_mostNet wsX1_place := goodIn_r _ [6] (by decide +kernel) (by decide +kernel)
set_option maxRecDepth 20000 in
theorem gX1_mostNet_X1_place : GoodIn wsX1_mostNet (va_wsS RX1 72 yX1_place wsX1_place) := goodIn_app (goodIn_of _ (by decide +kernel)) ggX1_mostNet_X1_place
set_option maxRecDepth 20000 in
theorem ggX1_mostNet_X1_mostPassed : GoodIn wsX1_mostNet wsX1_mostPassed := goodIn_r _ [10, 11, 12, 22, 23, 24, 25, 26, 27, 28, 29, 30, 31, 32, 33, 34, 35, 36, 37] (by decide +kernel) (by decide +kernel)
set_option maxRecDepth 20000 in
theorem gX1_mostNet_X1_mostPassed : GoodIn wsX1_mostNet (wsV RX1 163 RX1 yX1_mostPassed wsX1_mostPassed) := goodIn_app (goodIn_of _ (by decide +kernel)) ggX1_mostNet_X1_mostPassed
set_option maxRecDepth 20000 in
theorem ggX1_mostNet_X1_leastPassed : GoodIn wsX1_mostNet wsX1_leastPassed := goodIn_r _ [16, 17, 18, 19, 20, 21, 22, 23, 24, 25, 26, 27, 28, 29, 30, 31, 32, 33, 34, 35, 36, 37] (by decide +kernel) (by decide +kernel)
set_option maxRecDepth 20000 in
theorem gX1_mostNet_X1_leastPassed : GoodIn wsX1_mostNet (wsV RX1 159 RX1 yX1_leastPassed wsX1_leastPassed) := goodIn_app (goodIn_of _ (by decide +kernel)) ggX1_mostNet_X1_leastPassed
theorem dX1_mostNet_0 : decode cX1_mostNet 0 = .ok (.iload_n 1, 1) := by decide +kernel
theorem dX1_mostNet_1 : decode cX1_mostNet 1 = .ok (.iload_n 2, 1) := by decide +kernel
theorem dX1_mostNet_2 : decode cX1_mostNet 2 = .ok (.invokestatic 72, 3) := by decide +kernel
theorem dX1_mostNet_5 : decode cX1_mostNet 5 = .ok (.istore 4, 2) := by decide +kernel
theorem dX1_mostNet_7 : decode cX1_mostNet 7 = .ok (.aload_n 0, 1) := by decide +kernel
theorem dX1_mostNet_8 : decode cX1_mostNet 8 = .ok (.aload_n 0, 1) := by decide +kernel
theorem dX1_mostNet_9 : decode cX1_mostNet 9 = .ok (.getfield 22, 3) := by decide +kernel
theorem dX1_mostNet_12 : decode cX1_mostNet 12 = .ok (.iload 4, 2) := by decide +kernel
theorem dX1_mostNet_14 : decode cX1_mostNet 14 = .ok (.iaload, 1) := by decide +kernel
theorem dX1_mostNet_15 : decode cX1_mostNet 15 = .ok (.iload_n 1, 1) := by decide +kernel
theorem dX1_mostNet_16 : decode cX1_mostNet 16 = .ok (.iload_n 3, 1) := by decide +kernel
theorem dX1_mostNet_17 : decode cX1_mostNet 17 = .ok (.invokevirtual 163, 3) := by decide +kernel
theorem dX1_mostNet_20 : decode cX1_mostNet 20 = .ok (.aload_n 0, 1) := by decide +kernel
theorem dX1_mostNet_21 : decode cX1_mostNet 21 = .ok (.aload_n 0, 1) := by decide +kernel
theorem dX1_mostNet_22 : decode cX1_mostNet 22 = .ok (.getfield 25, 3) := by decide +kernel
theorem dX1_mostNet_25 : decode cX1_mostNet 25 = .ok (.iload 4, 2) := by decide +kernel
theorem dX1_mostNet_27 : decode cX1_mostNet 27 = .ok (.iaload, 1) := by decide +kernel
theorem dX1_mostNet_28 : decode cX1_mostNet 28 = .ok (.iload_n 1, 1) := by decide +kernel
theorem dX1_mostNet_29 : decode cX1_mostNet 29 = .ok (.iload_n 3, 1) := by decide +kernel
theorem dX1_mostNet_30 : decode cX1_mostNet 30 = .ok (.invokevirtual 159, 3) := by decide +kernel
theorem dX1_mostNet_33 : decode cX1_mostNet 33 = .ok (.isub, 1) := by decide +kernel
theorem dX1_mostNet_34 : decode cX1_mostNet 34 = .ok (.ireturn, 1) := by decide +kernel
set_option maxRecDepth 20000 in
theorem ggX1_gatherChange_X0_put : GoodIn wsX1_gatherChange wsX0_put := goodIn_r _ [8, 9, 10, 11, 12, 7, 13, 67, 68] (by decide +kernel) (by decide +kernel)
set_option maxRecDepth 20000 in
theorem gX1_gatherChange_X0_put : GoodIn wsX1_gatherChange (wsV RX1 166 RX0 yX0_put wsX0_put) := goodIn_app (goodIn_of _ (by decide +kernel)) ggX1_gatherChange_X0_put
set_option maxRecDepth 20000 in
theorem ggX1_gatherChange_X1_leastNet : GoodIn wsX1_gatherChange wsX1_leastNet := goodIn_r _ [18, 19, 20, 21, 22, 17, 23, 24, 25, 26, 27, 28, 29, 30, 31, 32, 33, 34, 35, 36, 37, 38, 51, 52, 53, 54, 55, 56, 57, 58, 59, 60, 61, 62, 63, 64, 65, 66] (by decide +kernel) (by decide +kernel)
set_option maxRecDepth 20000 in
theorem gX1_gatherChange_X1_leastNet : GoodIn wsX1_gatherChange (wsV RX1 170 RX1 yX1_leastNet wsX1_leastNet) := goodIn_app (goodIn_of _ (by decide +kernel)) ggX1_gatherChange_X1_leastNet
set_option maxRecDepth 20000 in
theorem ggX1_gatherChange_X1_mostNet : GoodIn wsX1_gatherChange wsX1_mostNet := goodIn_r _ [42, 19, 20, 21, 22, 17, 23, 33, 34, 35, 36, 37, 38, 24, 25, 26, 27, 28, 29, 30, 31, 32, 51, 52, 53, 54, 55, 56, 57, 58, 59, 60, 61, 62, 63, 64, 65, 66] (by decide +kernel) (by decide +kernel)
set_option maxRecDepth 20000 in
theorem gX1_gatherChange_X1_mostNet : GoodIn wsX1_gatherChange (wsV RX1 173 RX1 yX1_mostNet wsX1_mostNet) := goodIn_app (goodIn_of _ (by decide +kernel)) ggX1_gatherChange_X1_mostNet
set_option maxRecDepth 20000 in
theorem ggX1_gatherChange_X1_addDoor : GoodIn wsX1_gatherChange wsX1_addDoor := goodIn_r _ [46, 1, 47, 48, 49, 7, 50, 9, 10, 11, 12, 13, 51, 52, 53, 54, 55, 56, 57, 58, 59, 60, 61, 62, 63, 64, 65, 66, 67, 68] (by decide +kernel) (by decide +kernel)
set_option maxRecDepth 20000 in
theorem gX1_gatherChange_X1_addDoor : GoodIn wsX1_gatherChange (wsV RX1 176 RX1 yX1_addDoor wsX1_addDoor) := goodIn_app (goodIn_of _ (by decide +kernel)) ggX1_gatherChange_X1_addDoor
theorem dX1_gatherChange_0 : decode cX1_gatherChange 0 = .ok (.iconst 0, 1) := by decide +kernel
theorem dX1_gatherChange_1 : decode cX1_gatherChange 1 = .ok (.istore 4, 2) := by decide +kernel
theorem dX1_gatherChange_3 : decode cX1_gatherChange 3 = .ok (.iload 4, 2) := by decide +kernel
theorem dX1_gatherChange_5 : decode cX1_gatherChange 5 = .ok (.iconst 3, 1) := by decide +kernel
theorem dX1_gatherChange_6 : decode cX1_gatherChange 6 = .ok (.if_icmp .ge 22, 3) := by decide +kernel
theorem dX1_gatherChange_9 : decode cX1_gatherChange 9 = .ok (.aload_n 0, 1) := by decide +kernel
theorem dX1_gatherChange_10 : decode cX1_gatherChange 10 = .ok (.getfield 49, 3) := by decide +kernel
theorem dX1_gatherChange_13 : decode cX1_gatherChange 13 = .ok (.bipush 61, 2) := by decide +kernel
theorem dX1_gatherChange_15 : decode cX1_gatherChange 15 = .ok (.iload 4, 2) := by decide +kernel
theorem dX1_gatherChange_17 : decode cX1_gatherChange 17 = .ok (.iconst 0, 1) := by decide +kernel
theorem dX1_gatherChange_18 : decode cX1_gatherChange 18 = .ok (.iconst 0, 1) := by decide +kernel
theorem dX1_gatherChange_19 : decode cX1_gatherChange 19 = .ok (.invokevirtual 166, 3) := by decide +kernel
theorem dX1_gatherChange_22 : decode cX1_gatherChange 22 = .ok (.iinc 4 1, 3) := by decide +kernel
theorem dX1_gatherChange_25 : decode cX1_gatherChange 25 = .ok (.goto (-22), 3) := by decide +kernel
theorem dX1_gatherChange_28 : decode cX1_gatherChange 28 = .ok (.iconst 0, 1) := by decide +kernel
theorem dX1_gatherChange_29 : decode cX1_gatherChange 29 = .ok (.istore 4, 2) := by decide +kernel
theorem dX1_gatherChange_31 : decode cX1_gatherChange 31 = .ok (.iload 4, 2) := by decide +kernel
theorem dX1_gatherChange_33 : decode cX1_gatherChange 33 = .ok (.aload_n 0, 1) := by decide +kernel
theorem dX1_gatherChange_34 : decode cX1_gatherChange 34 = .ok (.getfield 61, 3) := by decide +kernel
theorem dX1_gatherChange_37 : decode cX1_gatherChange 37 = .ok (.if_icmp .ge 42, 3) := by decide +kernel
theorem dX1_gatherChange_40 : decode cX1_gatherChange 40 = .ok (.iload 4, 2) := by decide +kernel
theorem dX1_gatherChange_42 : decode cX1_gatherChange 42 = .ok (.iload_n 3, 1) := by decide +kernel
theorem dX1_gatherChange_43 : decode cX1_gatherChange 43 = .ok (.if_icmp .eq 30, 3) := by decide +kernel
theorem dX1_gatherChange_46 : decode cX1_gatherChange 46 = .ok (.aload_n 0, 1) := by decide +kernel
theorem dX1_gatherChange_47 : decode cX1_gatherChange 47 = .ok (.aload_n 0, 1) := by decide +kernel
theorem dX1_gatherChange_48 : decode cX1_gatherChange 48 = .ok (.getfield 9, 3) := by decide +kernel
theorem dX1_gatherChange_51 : decode cX1_gatherChange 51 = .ok (.iload 4, 2) := by decide +kernel
theorem dX1_gatherChange_53 : decode cX1_gatherChange 53 = .ok (.iaload, 1) := by decide +kernel
theorem dX1_gatherChange_54 : decode cX1_gatherChange 54 = .ok (.aload_n 0, 1) := by decide +kernel
theorem dX1_gatherChange_55 : decode cX1_gatherChange 55 = .ok (.iload 4, 2) := by decide +kernel
theorem dX1_gatherChange_57 : decode cX1_gatherChange 57 = .ok (.iload_n 1, 1) := by decide +kernel
theorem dX1_gatherChange_58 : decode cX1_gatherChange 58 = .ok (.iload_n 2, 1) := by decide +kernel
theorem dX1_gatherChange_59 : decode cX1_gatherChange 59 = .ok (.invokevirtual 170, 3) := by decide +kernel
theorem dX1_gatherChange_62 : decode cX1_gatherChange 62 = .ok (.aload_n 0, 1) := by decide +kernel
theorem dX1_gatherChange_63 : decode cX1_gatherChange 63 = .ok (.iload 4, 2) := by decide +kernel
theorem dX1_gatherChange_65 : decode cX1_gatherChange 65 = .ok (.iload_n 1, 1) := by decide +kernel
theorem dX1_gatherChange_66 : decode cX1_gatherChange 66 = .ok (.iload_n 2, 1) := by decide +kernel
theorem dX1_gatherChange_67 : decode cX1_gatherChange 67 = .ok (.invokevirtual 173, 3) := by decide +kernel
theorem dX1_gatherChange_70 : decode cX1_gatherChange 70 = .ok (.invokevirtual 176, 3) := by decide +kernel
theorem dX1_gatherChange_73 : decode cX1_gatherChange 73 = .ok (.iinc 4 1, 3) := by decide +kernel
theorem dX1_gatherChange_76 : decode cX1_gatherChange 76 = .ok (.goto (-45), 3) := by decide +kernel
theorem dX1_gatherChange_79 : decode cX1_gatherChange 79 = .ok (.return_, 1) := by decide +kernel
set_option maxRecDepth 20000 in
theorem ggX1_addDoor_X0_widen : GoodIn wsX1_addDoor wsX0_widen := goodIn_r _ [6, 7, 8, 9, 10, 5, 11, 28, 29] (by decide +kernel) (by decide +kernel)
set_option maxRecDepth 20000 in
theorem gX1_addDoor_X0_widen : GoodIn wsX1_addDoor (wsV RX1 179 RX0 yX0_widen wsX0_widen) := goodIn_app (goodIn_of _ (by decide +kernel)) ggX1_addDoor_X0_widen
theorem dX1_addDoor_0 : decode cX1_addDoor 0 = .ok (.iload_n 1, 1) := by decide +kernel
theorem dX1_addDoor_1 : decode cX1_addDoor 1 = .ok (.ifCond .ne 30, 3) := by decide +kernel
theorem dX1_addDoor_4 : decode cX1_addDoor 4 = .ok (.aload_n 0, 1) := by decide +kernel
theorem dX1_addDoor_5 : decode cX1_addDoor 5 = .ok (.getfield 49, 3) := by decide +kernel
theorem dX1_addDoor_8 : decode cX1_addDoor 8 = .ok (.bipush 61, 2) := by decide +kernel
theorem dX1_addDoor_10 : decode cX1_addDoor 10 = .ok (.iconst 0, 1) := by decide +kernel
theorem dX1_addDoor_11 : decode cX1_addDoor 11 = .ok (.iload_n 2, 1) := by decide +kernel
theorem dX1_addDoor_12 : decode cX1_addDoor 12 = .ok (.iload_n 3, 1) := by decide +kernel
theorem dX1_addDoor_13 : decode cX1_addDoor 13 = .ok (.invokevirtual 179, 3) := by decide +kernel
theorem dX1_addDoor_16 : decode cX1_addDoor 16 = .ok (.aload_n 0, 1) := by decide +kernel
theorem dX1_addDoor_17 : decode cX1_addDoor 17 = .ok (.getfield 49, 3) := by decide +kernel
theorem dX1_addDoor_20 : decode cX1_addDoor 20 = .ok (.bipush 61, 2) := by decide +kernel
theorem dX1_addDoor_22 : decode cX1_addDoor 22 = .ok (.iconst 2, 1) := by decide +kernel
theorem dX1_addDoor_23 : decode cX1_addDoor 23 = .ok (.iload_n 2, 1) := by decide +kernel
theorem dX1_addDoor_24 : decode cX1_addDoor 24 = .ok (.iload_n 3, 1) := by decide +kernel
theorem dX1_addDoor_25 : decode cX1_addDoor 25 = .ok (.invokevirtual 179, 3) := by decide +kernel
theorem dX1_addDoor_28 : decode cX1_addDoor 28 = .ok (.goto 61, 3) := by decide +kernel
theorem dX1_addDoor_31 : decode cX1_addDoor 31 = .ok (.iload_n 1, 1) := by decide +kernel
theorem dX1_addDoor_32 : decode cX1_addDoor 32 = .ok (.iconst 1, 1) := by decide +kernel
theorem dX1_addDoor_33 : decode cX1_addDoor 33 = .ok (.if_icmp .ne 30, 3) := by decide +kernel
theorem dX1_addDoor_36 : decode cX1_addDoor 36 = .ok (.aload_n 0, 1) := by decide +kernel
theorem dX1_addDoor_37 : decode cX1_addDoor 37 = .ok (.getfield 49, 3) := by decide +kernel
theorem dX1_addDoor_40 : decode cX1_addDoor 40 = .ok (.bipush 61, 2) := by decide +kernel
theorem dX1_addDoor_42 : decode cX1_addDoor 42 = .ok (.iconst 1, 1) := by decide +kernel
theorem dX1_addDoor_43 : decode cX1_addDoor 43 = .ok (.iload_n 2, 1) := by decide +kernel
theorem dX1_addDoor_44 : decode cX1_addDoor 44 = .ok (.iload_n 3, 1) := by decide +kernel
theorem dX1_addDoor_45 : decode cX1_addDoor 45 = .ok (.invokevirtual 179, 3) := by decide +kernel
theorem dX1_addDoor_48 : decode cX1_addDoor 48 = .ok (.aload_n 0, 1) := by decide +kernel
theorem dX1_addDoor_49 : decode cX1_addDoor 49 = .ok (.getfield 49, 3) := by decide +kernel
theorem dX1_addDoor_52 : decode cX1_addDoor 52 = .ok (.bipush 61, 2) := by decide +kernel
theorem dX1_addDoor_54 : decode cX1_addDoor 54 = .ok (.iconst 2, 1) := by decide +kernel
theorem dX1_addDoor_55 : decode cX1_addDoor 55 = .ok (.iload_n 2, 1) := by decide +kernel
theorem dX1_addDoor_56 : decode cX1_addDoor 56 = .ok (.iload_n 3, 1) := by decide +kernel
theorem dX1_addDoor_57 : decode cX1_addDoor 57 = .ok (.invokevirtual 179, 3) := by decide +kernel
theorem dX1_addDoor_60 : decode cX1_addDoor 60 = .ok (.goto 29, 3) := by decide +kernel
theorem dX1_addDoor_63 : decode cX1_addDoor 63 = .ok (.aload_n 0, 1) := by decide +kernel
theorem dX1_addDoor_64 : decode cX1_addDoor 64 = .ok (.getfield 49, 3) := by decide +kernel
theorem dX1_addDoor_67 : decode cX1_addDoor 67 = .ok (.bipush 61, 2) := by decide +kernel
theorem dX1_addDoor_69 : decode cX1_addDoor 69 = .ok (.iconst 0, 1) := by decide +kernel
theorem dX1_addDoor_70 : decode cX1_addDoor 70 = .ok (.iload_n 3, 1) := by decide +kernel
theorem dX1_addDoor_71 : decode cX1_addDoor 71 = .ok (.ineg, 1) := by decide +kernel
theorem dX1_addDoor_72 : decode cX1_addDoor 72 = .ok (.iload_n 2, 1) := by decide +kernel
theorem dX1_addDoor_73 : decode cX1_addDoor 73 = .ok (.ineg, 1) := by decide +kernel
theorem dX1_addDoor_74 : decode cX1_addDoor 74 = .ok (.invokevirtual 179, 3) := by decide +kernel
theorem dX1_addDoor_77 : decode cX1_addDoor 77 = .ok (.aload_n 0, 1) := by decide +kernel
theorem dX1_addDoor_78 : decode cX1_addDoor 78 = .ok (.getfield 49, 3) := by decide +kernel
theorem dX1_addDoor_81 : decode cX1_addDoor 81 = .ok (.bipush 61, 2) := by decide +kernel
theorem dX1_addDoor_83 : decode cX1_addDoor 83 = .ok (.iconst 1, 1) := by decide +kernel
theorem dX1_addDoor_84 : decode cX1_addDoor 84 = .ok (.iload_n 2, 1) := by decide +kernel
theorem dX1_addDoor_85 : decode cX1_addDoor 85 = .ok (.iload_n 3, 1) := by decide +kernel
theorem dX1_addDoor_86 : decode cX1_addDoor 86 = .ok (.invokevirtual 179, 3) := by decide +kernel
theorem dX1_addDoor_89 : decode cX1_addDoor 89 = .ok (.return_, 1) := by decide +kernel
set_option maxRecDepth 20000 in
theorem ggX1_lookAhead_X0_put : GoodIn wsX1_lookAhead wsX0_put := goodIn_r _ [9, 10, 11, 12, 13, 8, 14, 114, 115] (by decide +kernel) (by decide +kernel)
set_option maxRecDepth 20000 in
theorem gX1_lookAhead_X0_put : GoodIn wsX1_lookAhead (wsV RX1 166 RX0 yX0_put wsX0_put) := goodIn_app (goodIn_of _ (by decide +kernel)) ggX1_lookAhead_X0_put
set_option maxRecDepth 20000 in
theorem ggX1_lookAhead_X1_gatherChange : GoodIn wsX1_lookAhead wsX1_gatherChange := goodIn_r _ [19, 1, 20, 21, 5, 6, 7, 8, 9, 10, 11, 12, 13, 14, 22, 23, 24, 18, 25, 26, 27, 28, 29, 30, 31, 32, 33, 34, 35, 36, 37, 38, 39, 40, 41, 42, 43, 44, 45, 46, 47, 48, 49, 50, 51, 52, 53, 54, 55, 56, 57, 98, 99, 100, 101, 102, 103, 104, 105, 106, 107, 108, 109, 110, 111, 112, 113, 114, 115] (by decide +kernel) (by decide +kernel)
set_option maxRecDepth 20000 in
theorem gX1_lookAhead_X1_gatherChange : GoodIn wsX1_lookAhead (wsV RX1 120 RX1 yX1_gatherChange wsX1_gatherChange) := goodIn_app (goodIn_of _ (by decide +kernel)) ggX1_lookAhead_X1_gatherChange
set_option maxRecDepth 20000 in
theorem ggX1_lookAhead_X0_putSum : GoodIn wsX1_lookAhead wsX0_putSum := goodIn_r _ [61, 62, 63, 64, 8, 65, 10, 12, 13, 14, 66, 67, 68, 69, 11, 70, 6, 7, 9, 114, 115] (by decide +kernel) (by decide +kernel)
set_option maxRecDepth 20000 in
theorem gX1_lookAhead_X0_putSum : GoodIn wsX1_lookAhead (wsV RX1 182 RX0 yX0_putSum wsX0_putSum) := goodIn_app (goodIn_of _ (by decide +kernel)) ggX1_lookAhead_X0_putSum
set_option maxRecDepth 20000 in
theorem ggX1_lookAhead_X1_keepAllowed : GoodIn wsX1_lookAhead wsX1_keepAllowed := goodIn_r _ [74, 1, 75, 76, 77, 78, 79, 80, 81, 82, 83, 8, 84, 10, 85, 37, 38, 39, 11, 86, 87, 88, 12, 13, 14, 89, 90, 91, 92, 62, 63, 64, 65, 66, 67, 68, 69, 93, 94, 95, 96, 97, 98, 99, 100, 101, 102, 103, 104, 105, 106, 107, 108, 109, 110, 111, 112, 113, 114, 115] (by decide +kernel) (by decide +kernel)
set_option maxRecDepth 20000 in
theorem gX1_lookAhead_X1_keepAllowed : GoodIn wsX1_lookAhead (wsV RX1 185 RX1 yX1_keepAllowed wsX1_keepAllowed) := goodIn_app (goodIn_of _ (by decide +kernel)) ggX1_lookAhead_X1_keepAllowed
theorem dX1_lookAhead_0 : decode cX1_lookAhead 0 = .ok (.aload_n 0, 1) := by decide +kernel
theorem dX1_lookAhead_1 : decode cX1_lookAhead 1 = .ok (.getfield 49, 3) := by decide +kernel
theorem dX1_lookAhead_4 : decode cX1_lookAhead 4 = .ok (.iconst 0, 1) := by decide +kernel
theorem dX1_lookAhead_5 : decode cX1_lookAhead 5 = .ok (.iconst 0, 1) := by decide +kernel
theorem dX1_lookAhead_6 : decode cX1_lookAhead 6 = .ok (.aload_n 0, 1) := by decide +kernel
theorem dX1_lookAhead_7 : decode cX1_lookAhead 7 = .ok (.getfield 28, 3) := by decide +kernel
theorem dX1_lookAhead_10 : decode cX1_lookAhead 10 = .ok (.iconst 0, 1) := by decide +kernel
theorem dX1_lookAhead_11 : decode cX1_lookAhead 11 = .ok (.iaload, 1) := by decide +kernel
theorem dX1_lookAhead_12 : decode cX1_lookAhead 12 = .ok (.aload_n 0, 1) := by decide +kernel
theorem dX1_lookAhead_13 : decode cX1_lookAhead 13 = .ok (.getfield 31, 3) := by decide +kernel
theorem dX1_lookAhead_16 : decode cX1_lookAhead 16 = .ok (.iconst 0, 1) := by decide +kernel
theorem dX1_lookAhead_17 : decode cX1_lookAhead 17 = .ok (.iaload, 1) := by decide +kernel
theorem dX1_lookAhead_18 : decode cX1_lookAhead 18 = .ok (.invokevirtual 166, 3) := by decide +kernel
theorem dX1_lookAhead_21 : decode cX1_lookAhead 21 = .ok (.aload_n 0, 1) := by decide +kernel
theorem dX1_lookAhead_22 : decode cX1_lookAhead 22 = .ok (.getfield 49, 3) := by decide +kernel
theorem dX1_lookAhead_25 : decode cX1_lookAhead 25 = .ok (.iconst 0, 1) := by decide +kernel
theorem dX1_lookAhead_26 : decode cX1_lookAhead 26 = .ok (.iconst 1, 1) := by decide +kernel
theorem dX1_lookAhead_27 : decode cX1_lookAhead 27 = .ok (.aload_n 0, 1) := by decide +kernel
theorem dX1_lookAhead_28 : decode cX1_lookAhead 28 = .ok (.getfield 28, 3) := by decide +kernel
theorem dX1_lookAhead_31 : decode cX1_lookAhead 31 = .ok (.iconst 1, 1) := by decide +kernel
theorem dX1_lookAhead_32 : decode cX1_lookAhead 32 = .ok (.iaload, 1) := by decide +kernel
theorem dX1_lookAhead_33 : decode cX1_lookAhead 33 = .ok (.aload_n 0, 1) := by decide +kernel
theorem dX1_lookAhead_34 : decode cX1_lookAhead 34 = .ok (.getfield 31, 3) := by decide +kernel
theorem dX1_lookAhead_37 : decode cX1_lookAhead 37 = .ok (.iconst 1, 1) := by decide +kernel
theorem dX1_lookAhead_38 : decode cX1_lookAhead 38 = .ok (.iaload, 1) := by decide +kernel
theorem dX1_lookAhead_39 : decode cX1_lookAhead 39 = .ok (.invokevirtual 166, 3) := by decide +kernel
theorem dX1_lookAhead_42 : decode cX1_lookAhead 42 = .ok (.aload_n 0, 1) := by decide +kernel
theorem dX1_lookAhead_43 : decode cX1_lookAhead 43 = .ok (.getfield 49, 3) := by decide +kernel
theorem dX1_lookAhead_46 : decode cX1_lookAhead 46 = .ok (.iconst 0, 1) := by decide +kernel
theorem dX1_lookAhead_47 : decode cX1_lookAhead 47 = .ok (.iconst 2, 1) := by decide +kernel
theorem dX1_lookAhead_48 : decode cX1_lookAhead 48 = .ok (.aload_n 0, 1) := by decide +kernel
theorem dX1_lookAhead_49 : decode cX1_lookAhead 49 = .ok (.getfield 28, 3) := by decide +kernel
theorem dX1_lookAhead_52 : decode cX1_lookAhead 52 = .ok (.iconst 0, 1) := by decide +kernel
theorem dX1_lookAhead_53 : decode cX1_lookAhead 53 = .ok (.iaload, 1) := by decide +kernel
theorem dX1_lookAhead_54 : decode cX1_lookAhead 54 = .ok (.aload_n 0, 1) := by decide +kernel
theorem dX1_lookAhead_55 : decode cX1_lookAhead 55 = .ok (.getfield 28, 3) := by decide +kernel
theorem dX1_lookAhead_58 : decode cX1_lookAhead 58 = .ok (.iconst 1, 1) := by decide +kernel
theorem dX1_lookAhead_59 : decode cX1_lookAhead 59 = .ok (.iaload, 1) := by decide +kernel
theorem dX1_lookAhead_60 : decode cX1_lookAhead 60 = .ok (.iadd, 1) := by decide +kernel
theorem dX1_lookAhead_61 : decode cX1_lookAhead 61 = .ok (.aload_n 0, 1) := by decide +kernel
theorem dX1_lookAhead_62 : decode cX1_lookAhead 62 = .ok (.getfield 31, 3) := by decide +kernel
theorem dX1_lookAhead_65 : decode cX1_lookAhead 65 = .ok (.iconst 0, 1) := by decide +kernel
theorem dX1_lookAhead_66 : decode cX1_lookAhead 66 = .ok (.iaload, 1) := by decide +kernel
theorem dX1_lookAhead_67 : decode cX1_lookAhead 67 = .ok (.aload_n 0, 1) := by decide +kernel
theorem dX1_lookAhead_68 : decode cX1_lookAhead 68 = .ok (.getfield 31, 3) := by decide +kernel
theorem dX1_lookAhead_71 : decode cX1_lookAhead 71 = .ok (.iconst 1, 1) := by decide +kernel
theorem dX1_lookAhead_72 : decode cX1_lookAhead 72 = .ok (.iaload, 1) := by decide +kernel
theorem dX1_lookAhead_73 : decode cX1_lookAhead 73 = .ok (.iadd, 1) := by decide +kernel
theorem dX1_lookAhead_74 : decode cX1_lookAhead 74 = .ok (.invokevirtual 166, 3) := by decide +kernel
theorem dX1_lookAhead_77 : decode cX1_lookAhead 77 = .ok (.iconst 0, 1) := by decide +kernel
theorem dX1_lookAhead_78 : decode cX1_lookAhead 78 = .ok (.istore_n 2, 1) := by decide +kernel
theorem dX1_lookAhead_79 : decode cX1_lookAhead 79 = .ok (.iload_n 2, 1) := by decide +kernel
theorem dX1_lookAhead_80 : decode cX1_lookAhead 80 = .ok (.aload_n 0, 1) := by decide +kernel
theorem dX1_lookAhead_81 : decode cX1_lookAhead 81 = .ok (.getfield 141, 3) := by decide +kernel
theorem dX1_lookAhead_84 : decode cX1_lookAhead 84 = .ok (.if_icmp .gt 45, 3) := by decide +kernel
theorem dX1_lookAhead_87 : decode cX1_lookAhead 87 = .ok (.iload_n 2, 1) := by decide +kernel
theorem dX1_lookAhead_88 : decode cX1_lookAhead 88 = .ok (.ifCond .le 25, 3) := by decide +kernel
theorem dX1_lookAhead_91 : decode cX1_lookAhead 91 = .ok (.aload_n 0, 1) := by decide +kernel
theorem dX1_lookAhead_92 : decode cX1_lookAhead 92 = .ok (.iload_n 2, 1) := by decide +kernel
theorem dX1_lookAhead_93 : decode cX1_lookAhead 93 = .ok (.iconst 1, 1) := by decide +kernel
theorem dX1_lookAhead_94 : decode cX1_lookAhead 94 = .ok (.isub, 1) := by decide +kernel
theorem dX1_lookAhead_95 : decode cX1_lookAhead 95 = .ok (.iload_n 1, 1) := by decide +kernel
theorem dX1_lookAhead_96 : decode cX1_lookAhead 96 = .ok (.iconst (-1), 1) := by decide +kernel
theorem dX1_lookAhead_97 : decode cX1_lookAhead 97 = .ok (.invokevirtual 120, 3) := by decide +kernel
theorem dX1_lookAhead_100 : decode cX1_lookAhead 100 = .ok (.aload_n 0, 1) := by decide +kernel
theorem dX1_lookAhead_101 : decode cX1_lookAhead 101 = .ok (.getfield 49, 3) := by decide +kernel
theorem dX1_lookAhead_104 : decode cX1_lookAhead 104 = .ok (.iload_n 2, 1) := by decide +kernel
end
section
theorem dX1_lookAhead_105 : decode cX1_lookAhead 105 = .ok (.iload_n 2, 1) := by decide +kernel
theorem dX1_lookAhead_106 : decode cX1_lookAhead 106 = .ok (.iconst 1, 1) := by decide +kernel
theorem dX1_lookAhead_107 : decode cX1_lookAhead 107 = .ok (.isub, 1) := by decide +kernel
theorem dX1_lookAhead_108 : decode cX1_lookAhead 108 = .ok (.bipush 61, 2) := by decide +kernel
theorem dX1_lookAhead_110 : decode cX1_lookAhead 110 = .ok (.invokevirtual 182, 3) := by decide +kernel
theorem dX1_lookAhead_113 : decode cX1_lookAhead 113 = .ok (.aload_n 0, 1) := by decide +kernel
theorem dX1_lookAhead_114 : decode cX1_lookAhead 114 = .ok (.iload_n 2, 1) := by decide +kernel
theorem dX1_lookAhead_115 : decode cX1_lookAhead 115 = .ok (.invokevirtual 185, 3) := by decide +kernel
theorem dX1_lookAhead_118 : decode cX1_lookAhead 118 = .ok (.ifCond .ne 5, 3) := by decide +kernel
theorem dX1_lookAhead_121 : decode cX1_lookAhead 121 = .ok (.iload_n 2, 1) := by decide +kernel
theorem dX1_lookAhead_122 : decode cX1_lookAhead 122 = .ok (.ireturn, 1) := by decide +kernel
theorem dX1_lookAhead_123 : decode cX1_lookAhead 123 = .ok (.iinc 2 1, 3) := by decide +kernel
theorem dX1_lookAhead_126 : decode cX1_lookAhead 126 = .ok (.goto (-47), 3) := by decide +kernel
theorem dX1_lookAhead_129 : decode cX1_lookAhead 129 = .ok (.iconst (-1), 1) := by decide +kernel
theorem dX1_lookAhead_130 : decode cX1_lookAhead 130 = .ok (.ireturn, 1) := by decide +kernel
set_option maxRecDepth 20000 in
theorem ggX1_keepAllowed_X0_cut : GoodIn wsX1_keepAllowed wsX0_cut := goodIn_r _ [12, 13, 14, 15, 16, 17, 18, 19, 20, 21, 22, 23, 11, 24, 58, 59] (by decide +kernel) (by decide +kernel)
set_option maxRecDepth 20000 in
theorem gX1_keepAllowed_X0_cut : GoodIn wsX1_keepAllowed (wsV RX1 189 RX0 yX0_cut wsX0_cut) := goodIn_app (goodIn_of _ (by decide +kernel)) ggX1_keepAllowed_X0_cut
set_option maxRecDepth 20000 in
theorem ggX1_keepAllowed_X0_tighten : GoodIn wsX1_keepAllowed wsX0_tighten := goodIn_r _ [28, 29, 30, 31, 11, 32, 13, 22, 23, 24, 33, 34, 35, 36, 18, 37, 9, 10, 12, 14, 15, 16, 17, 19, 20, 21, 38, 39, 40, 41, 58, 59] (by decide +kernel) (by decide +kernel)
set_option maxRecDepth 20000 in
theorem gX1_keepAllowed_X0_tighten : GoodIn wsX1_keepAllowed (wsV RX1 192 RX0 yX0_tighten wsX0_tighten) := goodIn_app (goodIn_of _ (by decide +kernel)) ggX1_keepAllowed_X0_tighten
theorem dX1_keepAllowed_0 : decode cX1_keepAllowed 0 = .ok (.aload_n 0, 1) := by decide +kernel
theorem dX1_keepAllowed_1 : decode cX1_keepAllowed 1 = .ok (.getfield 49, 3) := by decide +kernel
theorem dX1_keepAllowed_4 : decode cX1_keepAllowed 4 = .ok (.iload_n 1, 1) := by decide +kernel
theorem dX1_keepAllowed_5 : decode cX1_keepAllowed 5 = .ok (.iconst 0, 1) := by decide +kernel
theorem dX1_keepAllowed_6 : decode cX1_keepAllowed 6 = .ok (.iconst 0, 1) := by decide +kernel
theorem dX1_keepAllowed_7 : decode cX1_keepAllowed 7 = .ok (.ldc 188, 2) := by decide +kernel
theorem dX1_keepAllowed_9 : decode cX1_keepAllowed 9 = .ok (.invokevirtual 189, 3) := by decide +kernel
theorem dX1_keepAllowed_12 : decode cX1_keepAllowed 12 = .ok (.aload_n 0, 1) := by decide +kernel
theorem dX1_keepAllowed_13 : decode cX1_keepAllowed 13 = .ok (.getfield 49, 3) := by decide +kernel
theorem dX1_keepAllowed_16 : decode cX1_keepAllowed 16 = .ok (.iload_n 1, 1) := by decide +kernel
theorem dX1_keepAllowed_17 : decode cX1_keepAllowed 17 = .ok (.iconst 1, 1) := by decide +kernel
theorem dX1_keepAllowed_18 : decode cX1_keepAllowed 18 = .ok (.iconst 0, 1) := by decide +kernel
theorem dX1_keepAllowed_19 : decode cX1_keepAllowed 19 = .ok (.ldc 188, 2) := by decide +kernel
theorem dX1_keepAllowed_21 : decode cX1_keepAllowed 21 = .ok (.invokevirtual 189, 3) := by decide +kernel
theorem dX1_keepAllowed_24 : decode cX1_keepAllowed 24 = .ok (.iconst 0, 1) := by decide +kernel
theorem dX1_keepAllowed_25 : decode cX1_keepAllowed 25 = .ok (.istore_n 2, 1) := by decide +kernel
theorem dX1_keepAllowed_26 : decode cX1_keepAllowed 26 = .ok (.iload_n 2, 1) := by decide +kernel
theorem dX1_keepAllowed_27 : decode cX1_keepAllowed 27 = .ok (.aload_n 0, 1) := by decide +kernel
theorem dX1_keepAllowed_28 : decode cX1_keepAllowed 28 = .ok (.getfield 86, 3) := by decide +kernel
theorem dX1_keepAllowed_31 : decode cX1_keepAllowed 31 = .ok (.if_icmp .ge 45, 3) := by decide +kernel
theorem dX1_keepAllowed_34 : decode cX1_keepAllowed 34 = .ok (.aload_n 0, 1) := by decide +kernel
theorem dX1_keepAllowed_35 : decode cX1_keepAllowed 35 = .ok (.getfield 34, 3) := by decide +kernel
theorem dX1_keepAllowed_38 : decode cX1_keepAllowed 38 = .ok (.iload_n 2, 1) := by decide +kernel
theorem dX1_keepAllowed_39 : decode cX1_keepAllowed 39 = .ok (.iaload, 1) := by decide +kernel
theorem dX1_keepAllowed_40 : decode cX1_keepAllowed 40 = .ok (.iload_n 1, 1) := by decide +kernel
theorem dX1_keepAllowed_41 : decode cX1_keepAllowed 41 = .ok (.if_icmp .ne 29, 3) := by decide +kernel
theorem dX1_keepAllowed_44 : decode cX1_keepAllowed 44 = .ok (.aload_n 0, 1) := by decide +kernel
theorem dX1_keepAllowed_45 : decode cX1_keepAllowed 45 = .ok (.getfield 49, 3) := by decide +kernel
theorem dX1_keepAllowed_48 : decode cX1_keepAllowed 48 = .ok (.iload_n 1, 1) := by decide +kernel
theorem dX1_keepAllowed_49 : decode cX1_keepAllowed 49 = .ok (.aload_n 0, 1) := by decide +kernel
theorem dX1_keepAllowed_50 : decode cX1_keepAllowed 50 = .ok (.getfield 37, 3) := by decide +kernel
theorem dX1_keepAllowed_53 : decode cX1_keepAllowed 53 = .ok (.iload_n 2, 1) := by decide +kernel
theorem dX1_keepAllowed_54 : decode cX1_keepAllowed 54 = .ok (.iaload, 1) := by decide +kernel
theorem dX1_keepAllowed_55 : decode cX1_keepAllowed 55 = .ok (.aload_n 0, 1) := by decide +kernel
theorem dX1_keepAllowed_56 : decode cX1_keepAllowed 56 = .ok (.getfield 40, 3) := by decide +kernel
theorem dX1_keepAllowed_59 : decode cX1_keepAllowed 59 = .ok (.iload_n 2, 1) := by decide +kernel
theorem dX1_keepAllowed_60 : decode cX1_keepAllowed 60 = .ok (.iaload, 1) := by decide +kernel
theorem dX1_keepAllowed_61 : decode cX1_keepAllowed 61 = .ok (.aload_n 0, 1) := by decide +kernel
theorem dX1_keepAllowed_62 : decode cX1_keepAllowed 62 = .ok (.getfield 43, 3) := by decide +kernel
theorem dX1_keepAllowed_65 : decode cX1_keepAllowed 65 = .ok (.iload_n 2, 1) := by decide +kernel
theorem dX1_keepAllowed_66 : decode cX1_keepAllowed 66 = .ok (.iaload, 1) := by decide +kernel
theorem dX1_keepAllowed_67 : decode cX1_keepAllowed 67 = .ok (.invokevirtual 189, 3) := by decide +kernel
theorem dX1_keepAllowed_70 : decode cX1_keepAllowed 70 = .ok (.iinc 2 1, 3) := by decide +kernel
theorem dX1_keepAllowed_73 : decode cX1_keepAllowed 73 = .ok (.goto (-47), 3) := by decide +kernel
theorem dX1_keepAllowed_76 : decode cX1_keepAllowed 76 = .ok (.aload_n 0, 1) := by decide +kernel
theorem dX1_keepAllowed_77 : decode cX1_keepAllowed 77 = .ok (.getfield 49, 3) := by decide +kernel
theorem dX1_keepAllowed_80 : decode cX1_keepAllowed 80 = .ok (.iload_n 1, 1) := by decide +kernel
theorem dX1_keepAllowed_81 : decode cX1_keepAllowed 81 = .ok (.invokevirtual 192, 3) := by decide +kernel
theorem dX1_keepAllowed_84 : decode cX1_keepAllowed 84 = .ok (.ireturn, 1) := by decide +kernel
set_option maxRecDepth 20000 in
theorem ggX1_lookBackTo_X1_gatherChange : GoodIn wsX1_lookBackTo wsX1_gatherChange := goodIn_r _ [7, 2, 8, 9, 10, 11, 12, 13, 14, 15, 16, 17, 18, 19, 20, 21, 22, 6, 23, 24, 25, 26, 27, 28, 29, 30, 31, 32, 33, 34, 35, 36, 37, 38, 39, 40, 41, 42, 43, 44, 45, 46, 47, 48, 49, 50, 51, 52, 53, 54, 55, 84, 85, 86, 87, 88, 89, 90, 91, 92, 93, 94, 95, 96, 97, 98, 99, 100, 101] (by decide +kernel) (by decide +kernel)
set_option maxRecDepth 20000 in
theorem gX1_lookBackTo_X1_gatherChange : GoodIn wsX1_lookBackTo (wsV RX1 120 RX1 yX1_gatherChange wsX1_gatherChange) := goodIn_app (goodIn_of _ (by decide +kernel)) ggX1_lookBackTo_X1_gatherChange
set_option maxRecDepth 20000 in
theorem ggX1_lookBackTo_X0_cutByDifference : GoodIn wsX1_lookBackTo wsX0_cutByDifference := goodIn_r _ [59, 60, 61, 62, 13, 63, 15, 17, 18, 19, 64, 65, 66, 67, 16, 68, 69, 70, 71, 72, 35, 36, 37, 73, 74, 75, 100, 101] (by decide +kernel) (by decide +kernel)
set_option maxRecDepth 20000 in
theorem gX1_lookBackTo_X0_cutByDifference : GoodIn wsX1_lookBackTo (wsV RX1 195 RX0 yX0_cutByDifference wsX0_cutByDifference) := goodIn_app (goodIn_of _ (by decide +kernel)) ggX1_lookBackTo_X0_cutByDifference
set_option maxRecDepth 20000 in
theorem ggX1_lookBackTo_X0_tighten : GoodIn wsX1_lookBackTo wsX0_tighten := goodIn_r _ [79, 60, 61, 62, 13, 63, 15, 17, 18, 19, 64, 65, 66, 67, 16, 68, 69, 70, 71, 72, 35, 36, 37, 73, 74, 75, 80, 81, 82, 83, 100, 101] (by decide +kernel) (by decide +kernel)
set_option maxRecDepth 20000 in
theorem gX1_lookBackTo_X0_tighten : GoodIn wsX1_lookBackTo (wsV RX1 192 RX0 yX0_tighten wsX0_tighten) := goodIn_app (goodIn_of _ (by decide +kernel)) ggX1_lookBackTo_X0_tighten
theorem dX1_lookBackTo_0 : decode cX1_lookBackTo 0 = .ok (.aload_n 0, 1) := by decide +kernel
theorem dX1_lookBackTo_1 : decode cX1_lookBackTo 1 = .ok (.getfield 141, 3) := by decide +kernel
theorem dX1_lookBackTo_4 : decode cX1_lookBackTo 4 = .ok (.iconst 1, 1) := by decide +kernel
theorem dX1_lookBackTo_5 : decode cX1_lookBackTo 5 = .ok (.isub, 1) := by decide +kernel
theorem dX1_lookBackTo_6 : decode cX1_lookBackTo 6 = .ok (.istore_n 2, 1) := by decide +kernel
theorem dX1_lookBackTo_7 : decode cX1_lookBackTo 7 = .ok (.iload_n 2, 1) := by decide +kernel
theorem dX1_lookBackTo_8 : decode cX1_lookBackTo 8 = .ok (.iload_n 1, 1) := by decide +kernel
theorem dX1_lookBackTo_9 : decode cX1_lookBackTo 9 = .ok (.if_icmp .lt 38, 3) := by decide +kernel
theorem dX1_lookBackTo_12 : decode cX1_lookBackTo 12 = .ok (.aload_n 0, 1) := by decide +kernel
theorem dX1_lookBackTo_13 : decode cX1_lookBackTo 13 = .ok (.iload_n 2, 1) := by decide +kernel
theorem dX1_lookBackTo_14 : decode cX1_lookBackTo 14 = .ok (.iconst 0, 1) := by decide +kernel
theorem dX1_lookBackTo_15 : decode cX1_lookBackTo 15 = .ok (.iconst (-1), 1) := by decide +kernel
theorem dX1_lookBackTo_16 : decode cX1_lookBackTo 16 = .ok (.invokevirtual 120, 3) := by decide +kernel
theorem dX1_lookBackTo_19 : decode cX1_lookBackTo 19 = .ok (.aload_n 0, 1) := by decide +kernel
theorem dX1_lookBackTo_20 : decode cX1_lookBackTo 20 = .ok (.getfield 49, 3) := by decide +kernel
theorem dX1_lookBackTo_23 : decode cX1_lookBackTo 23 = .ok (.iload_n 2, 1) := by decide +kernel
theorem dX1_lookBackTo_24 : decode cX1_lookBackTo 24 = .ok (.iload_n 2, 1) := by decide +kernel
theorem dX1_lookBackTo_25 : decode cX1_lookBackTo 25 = .ok (.iconst 1, 1) := by decide +kernel
theorem dX1_lookBackTo_26 : decode cX1_lookBackTo 26 = .ok (.iadd, 1) := by decide +kernel
theorem dX1_lookBackTo_27 : decode cX1_lookBackTo 27 = .ok (.bipush 61, 2) := by decide +kernel
theorem dX1_lookBackTo_29 : decode cX1_lookBackTo 29 = .ok (.invokevirtual 195, 3) := by decide +kernel
theorem dX1_lookBackTo_32 : decode cX1_lookBackTo 32 = .ok (.aload_n 0, 1) := by decide +kernel
theorem dX1_lookBackTo_33 : decode cX1_lookBackTo 33 = .ok (.getfield 49, 3) := by decide +kernel
theorem dX1_lookBackTo_36 : decode cX1_lookBackTo 36 = .ok (.iload_n 2, 1) := by decide +kernel
theorem dX1_lookBackTo_37 : decode cX1_lookBackTo 37 = .ok (.invokevirtual 192, 3) := by decide +kernel
theorem dX1_lookBackTo_40 : decode cX1_lookBackTo 40 = .ok (.pop, 1) := by decide +kernel
theorem dX1_lookBackTo_41 : decode cX1_lookBackTo 41 = .ok (.iinc 2 (-1), 3) := by decide +kernel
theorem dX1_lookBackTo_44 : decode cX1_lookBackTo 44 = .ok (.goto (-37), 3) := by decide +kernel
theorem dX1_lookBackTo_47 : decode cX1_lookBackTo 47 = .ok (.return_, 1) := by decide +kernel
set_option maxRecDepth 20000 in
theorem ggX1_firstAbove_X1_within : GoodIn wsX1_firstAbove wsX1_within := goodIn_r _ [7] (by decide +kernel) (by decide +kernel)
set_option maxRecDepth 20000 in
theorem gX1_firstAbove_X1_within : GoodIn wsX1_firstAbove (va_wsS RX1 57 yX1_within wsX1_within) := goodIn_app (goodIn_of _ (by decide +kernel)) ggX1_firstAbove_X1_within
set_option maxRecDepth 20000 in
theorem ggX1_firstAbove_X1_lookAhead : GoodIn wsX1_firstAbove wsX1_lookAhead := goodIn_r _ [11, 3, 12, 13, 2, 14, 15, 16, 17, 18, 19, 20, 21, 22, 23, 24, 25, 26, 6, 27, 28, 29, 30, 31, 32, 33, 34, 35, 36, 37, 38, 39, 40, 41, 42, 43, 44, 45, 46, 47, 48, 49, 50, 51, 52, 53, 54, 55, 56, 57, 58, 59, 60, 61, 62, 63, 64, 65, 66, 67, 68, 69, 70, 71, 72, 73, 74, 75, 76, 77, 78, 79, 80, 81, 82, 83, 84, 85, 86, 87, 88, 89, 90, 91, 92, 93, 94, 95, 96, 97, 98, 99, 100, 101, 102, 103, 104, 105, 116, 117, 118, 119, 120, 121, 122, 123, 124, 125, 126, 127, 128, 129, 130, 131, 132, 133] (by decide +kernel) (by decide +kernel)
set_option maxRecDepth 20000 in
theorem gX1_firstAbove_X1_lookAhead : GoodIn wsX1_firstAbove (wsV RX1 89 RX1 yX1_lookAhead wsX1_lookAhead) := goodIn_app (goodIn_of _ (by decide +kernel)) ggX1_firstAbove_X1_lookAhead
set_option maxRecDepth 20000 in
theorem ggX1_firstAbove_X1_lookBackTo : GoodIn wsX1_firstAbove wsX1_lookBackTo := goodIn_r _ [109, 2, 3, 24, 25, 26, 6, 27, 28, 29, 14, 15, 16, 17, 18, 19, 20, 21, 22, 23, 30, 31, 32, 33, 34, 35, 36, 37, 38, 39, 40, 41, 42, 43, 44, 45, 46, 47, 48, 49, 50, 51, 52, 53, 54, 55, 56, 57, 58, 59, 60, 61, 62, 63, 64, 65, 110, 111, 112, 113, 70, 71, 72, 73, 74, 75, 76, 77, 101, 90, 91, 92, 93, 94, 95, 96, 97, 98, 99, 100, 102, 103, 104, 105, 116, 117, 118, 119, 120, 121, 122, 123, 124, 125, 126, 127, 128, 129, 130, 131, 132, 133] (by decide +kernel) (by decide +kernel)
set_option maxRecDepth 20000 in
theorem gX1_firstAbove_X1_lookBackTo : GoodIn wsX1_firstAbove (wsV RX1 105 RX1 yX1_lookBackTo wsX1_lookBackTo) := goodIn_app (goodIn_of _ (by decide +kernel)) ggX1_firstAbove_X1_lookBackTo
set_option maxRecDepth 20000 in
theorem ggX1_firstAbove_X0_high : GoodIn wsX1_firstAbove wsX0_high := goodIn_r _ [77, 20, 21, 22, 17, 23, 132, 133] (by decide +kernel) (by decide +kernel)
set_option maxRecDepth 20000 in
theorem gX1_firstAbove_X0_high : GoodIn wsX1_firstAbove (wsV RX1 108 RX0 yX0_high wsX0_high) := goodIn_app (goodIn_of _ (by decide +kernel)) ggX1_firstAbove_X0_high
set_option maxRecDepth 20000 in
theorem ggX1_firstAbove_X0_low : GoodIn wsX1_firstAbove wsX0_low := goodIn_r _ [73, 19, 21, 22, 17, 23, 132, 133] (by decide +kernel) (by decide +kernel)
set_option maxRecDepth 20000 in
theorem gX1_firstAbove_X0_low : GoodIn wsX1_firstAbove (wsV RX1 111 RX0 yX0_low wsX0_low) := goodIn_app (goodIn_of _ (by decide +kernel)) ggX1_firstAbove_X0_low
theorem dX1_firstAbove_0 : decode cX1_firstAbove 0 = .ok (.iload_n 1, 1) := by decide +kernel
theorem dX1_firstAbove_1 : decode cX1_firstAbove 1 = .ok (.iconst 0, 1) := by decide +kernel
theorem dX1_firstAbove_2 : decode cX1_firstAbove 2 = .ok (.ldc 198, 2) := by decide +kernel
theorem dX1_firstAbove_4 : decode cX1_firstAbove 4 = .ok (.invokestatic 57, 3) := by decide +kernel
theorem dX1_firstAbove_7 : decode cX1_firstAbove 7 = .ok (.ifCond .eq 12, 3) := by decide +kernel
theorem dX1_firstAbove_10 : decode cX1_firstAbove 10 = .ok (.aload_n 0, 1) := by decide +kernel
theorem dX1_firstAbove_11 : decode cX1_firstAbove 11 = .ok (.iconst 0, 1) := by decide +kernel
theorem dX1_firstAbove_12 : decode cX1_firstAbove 12 = .ok (.invokevirtual 89, 3) := by decide +kernel
theorem dX1_firstAbove_15 : decode cX1_firstAbove 15 = .ok (.iconst (-1), 1) := by decide +kernel
theorem dX1_firstAbove_16 : decode cX1_firstAbove 16 = .ok (.if_icmp .eq 5, 3) := by decide +kernel
theorem dX1_firstAbove_19 : decode cX1_firstAbove 19 = .ok (.iconst (-1), 1) := by decide +kernel
theorem dX1_firstAbove_20 : decode cX1_firstAbove 20 = .ok (.ireturn, 1) := by decide +kernel
theorem dX1_firstAbove_21 : decode cX1_firstAbove 21 = .ok (.aload_n 0, 1) := by decide +kernel
theorem dX1_firstAbove_22 : decode cX1_firstAbove 22 = .ok (.iconst 0, 1) := by decide +kernel
theorem dX1_firstAbove_23 : decode cX1_firstAbove 23 = .ok (.invokevirtual 105, 3) := by decide +kernel
theorem dX1_firstAbove_26 : decode cX1_firstAbove 26 = .ok (.iconst 0, 1) := by decide +kernel
theorem dX1_firstAbove_27 : decode cX1_firstAbove 27 = .ok (.istore_n 3, 1) := by decide +kernel
theorem dX1_firstAbove_28 : decode cX1_firstAbove 28 = .ok (.iload_n 3, 1) := by decide +kernel
theorem dX1_firstAbove_29 : decode cX1_firstAbove 29 = .ok (.aload_n 0, 1) := by decide +kernel
theorem dX1_firstAbove_30 : decode cX1_firstAbove 30 = .ok (.getfield 141, 3) := by decide +kernel
theorem dX1_firstAbove_33 : decode cX1_firstAbove 33 = .ok (.if_icmp .gt 44, 3) := by decide +kernel
theorem dX1_firstAbove_36 : decode cX1_firstAbove 36 = .ok (.iload_n 2, 1) := by decide +kernel
theorem dX1_firstAbove_37 : decode cX1_firstAbove 37 = .ok (.ifCond .eq 15, 3) := by decide +kernel
theorem dX1_firstAbove_40 : decode cX1_firstAbove 40 = .ok (.aload_n 0, 1) := by decide +kernel
theorem dX1_firstAbove_41 : decode cX1_firstAbove 41 = .ok (.getfield 49, 3) := by decide +kernel
theorem dX1_firstAbove_44 : decode cX1_firstAbove 44 = .ok (.iload_n 3, 1) := by decide +kernel
theorem dX1_firstAbove_45 : decode cX1_firstAbove 45 = .ok (.iconst 2, 1) := by decide +kernel
theorem dX1_firstAbove_46 : decode cX1_firstAbove 46 = .ok (.invokevirtual 108, 3) := by decide +kernel
theorem dX1_firstAbove_49 : decode cX1_firstAbove 49 = .ok (.goto 12, 3) := by decide +kernel
theorem dX1_firstAbove_52 : decode cX1_firstAbove 52 = .ok (.aload_n 0, 1) := by decide +kernel
theorem dX1_firstAbove_53 : decode cX1_firstAbove 53 = .ok (.getfield 49, 3) := by decide +kernel
theorem dX1_firstAbove_56 : decode cX1_firstAbove 56 = .ok (.iload_n 3, 1) := by decide +kernel
theorem dX1_firstAbove_57 : decode cX1_firstAbove 57 = .ok (.iconst 2, 1) := by decide +kernel
theorem dX1_firstAbove_58 : decode cX1_firstAbove 58 = .ok (.invokevirtual 111, 3) := by decide +kernel
theorem dX1_firstAbove_61 : decode cX1_firstAbove 61 = .ok (.istore 4, 2) := by decide +kernel
theorem dX1_firstAbove_63 : decode cX1_firstAbove 63 = .ok (.iload 4, 2) := by decide +kernel
theorem dX1_firstAbove_65 : decode cX1_firstAbove 65 = .ok (.iload_n 1, 1) := by decide +kernel
theorem dX1_firstAbove_66 : decode cX1_firstAbove 66 = .ok (.if_icmp .le 5, 3) := by decide +kernel
theorem dX1_firstAbove_69 : decode cX1_firstAbove 69 = .ok (.iload_n 3, 1) := by decide +kernel
theorem dX1_firstAbove_70 : decode cX1_firstAbove 70 = .ok (.ireturn, 1) := by decide +kernel
theorem dX1_firstAbove_71 : decode cX1_firstAbove 71 = .ok (.iinc 3 1, 3) := by decide +kernel
theorem dX1_firstAbove_74 : decode cX1_firstAbove 74 = .ok (.goto (-46), 3) := by decide +kernel
theorem dX1_firstAbove_77 : decode cX1_firstAbove 77 = .ok (.iconst (-1), 1) := by decide +kernel
theorem dX1_firstAbove_78 : decode cX1_firstAbove 78 = .ok (.ireturn, 1) := by decide +kernel
set_option maxRecDepth 20000 in
theorem ggX1_leastThrough_X1_leastNet : GoodIn wsX1_leastThrough wsX1_leastNet := goodIn_r _ [10, 11, 12, 13, 14, 9, 15, 16, 17, 18, 19, 20, 2, 3, 4, 5, 21, 22, 23, 24, 25, 26, 50, 51, 52, 53, 54, 55, 56, 57, 58, 59, 60, 61, 62, 63, 64, 65] (by decide +kernel) (by decide +kernel)
set_option maxRecDepth 20000 in
theorem gX1_leastThrough_X1_leastNet : GoodIn wsX1_leastThrough (wsV RX1 170 RX1 yX1_leastNet wsX1_leastNet) := goodIn_app (goodIn_of _ (by decide +kernel)) ggX1_leastThrough_X1_leastNet
set_option maxRecDepth 20000 in
theorem ggX1_leastThrough_X1_leastRest : GoodIn wsX1_leastThrough wsX1_leastRest := goodIn_r _ [30, 31, 32, 33, 34, 35, 36, 37, 38, 39, 40, 41, 42, 43, 44, 45, 50, 51, 52, 53, 54, 55, 56, 57, 58, 59, 60, 61, 62, 63, 64, 65, 66, 67] (by decide +kernel) (by decide +kernel)
set_option maxRecDepth 20000 in
theorem gX1_leastThrough_X1_leastRest : GoodIn wsX1_leastThrough (wsV RX1 199 RX1 yX1_leastRest wsX1_leastRest) := goodIn_app (goodIn_of _ (by decide +kernel)) ggX1_leastThrough_X1_leastRest
set_option maxRecDepth 20000 in
theorem ggX1_leastThrough_X1_mostRest : GoodIn wsX1_leastThrough wsX1_mostRest := goodIn_r _ [49, 31, 41, 42, 43, 35, 44, 45, 38, 39, 40, 32, 33, 34, 36, 37, 50, 51, 52, 53, 54, 55, 56, 57, 58, 59, 60, 61, 62, 63, 64, 65, 66, 67] (by decide +kernel) (by decide +kernel)
set_option maxRecDepth 20000 in
theorem gX1_leastThrough_X1_mostRest : GoodIn wsX1_leastThrough (wsV RX1 202 RX1 yX1_mostRest wsX1_mostRest) := goodIn_app (goodIn_of _ (by decide +kernel)) ggX1_leastThrough_X1_mostRest
theorem dX1_leastThrough_0 : decode cX1_leastThrough 0 = .ok (.aload_n 0, 1) := by decide +kernel
theorem dX1_leastThrough_1 : decode cX1_leastThrough 1 = .ok (.iload_n 1, 1) := by decide +kernel
theorem dX1_leastThrough_2 : decode cX1_leastThrough 2 = .ok (.iload_n 2, 1) := by decide +kernel
theorem dX1_leastThrough_3 : decode cX1_leastThrough 3 = .ok (.iconst 0, 1) := by decide +kernel
theorem dX1_leastThrough_4 : decode cX1_leastThrough 4 = .ok (.invokevirtual 170, 3) := by decide +kernel
theorem dX1_leastThrough_7 : decode cX1_leastThrough 7 = .ok (.istore_n 3, 1) := by decide +kernel
theorem dX1_leastThrough_8 : decode cX1_leastThrough 8 = .ok (.aload_n 0, 1) := by decide +kernel
theorem dX1_leastThrough_9 : decode cX1_leastThrough 9 = .ok (.getfield 9, 3) := by decide +kernel
theorem dX1_leastThrough_12 : decode cX1_leastThrough 12 = .ok (.iload_n 1, 1) := by decide +kernel
theorem dX1_leastThrough_13 : decode cX1_leastThrough 13 = .ok (.iaload, 1) := by decide +kernel
theorem dX1_leastThrough_14 : decode cX1_leastThrough 14 = .ok (.ifCond .ne 23, 3) := by decide +kernel
theorem dX1_leastThrough_17 : decode cX1_leastThrough 17 = .ok (.iload_n 3, 1) := by decide +kernel
theorem dX1_leastThrough_18 : decode cX1_leastThrough 18 = .ok (.aload_n 0, 1) := by decide +kernel
theorem dX1_leastThrough_19 : decode cX1_leastThrough 19 = .ok (.iload_n 2, 1) := by decide +kernel
theorem dX1_leastThrough_20 : decode cX1_leastThrough 20 = .ok (.iconst 0, 1) := by decide +kernel
theorem dX1_leastThrough_21 : decode cX1_leastThrough 21 = .ok (.invokevirtual 199, 3) := by decide +kernel
theorem dX1_leastThrough_24 : decode cX1_leastThrough 24 = .ok (.aload_n 0, 1) := by decide +kernel
theorem dX1_leastThrough_25 : decode cX1_leastThrough 25 = .ok (.iload_n 2, 1) := by decide +kernel
theorem dX1_leastThrough_26 : decode cX1_leastThrough 26 = .ok (.iconst 2, 1) := by decide +kernel
theorem dX1_leastThrough_27 : decode cX1_leastThrough 27 = .ok (.invokevirtual 199, 3) := by decide +kernel
theorem dX1_leastThrough_30 : decode cX1_leastThrough 30 = .ok (.invokestatic 154, 3) := by decide +kernel
theorem dX1_leastThrough_33 : decode cX1_leastThrough 33 = .ok (.invokestatic 154, 3) := by decide +kernel
theorem dX1_leastThrough_36 : decode cX1_leastThrough 36 = .ok (.ireturn, 1) := by decide +kernel
theorem dX1_leastThrough_37 : decode cX1_leastThrough 37 = .ok (.aload_n 0, 1) := by decide +kernel
theorem dX1_leastThrough_38 : decode cX1_leastThrough 38 = .ok (.getfield 9, 3) := by decide +kernel
theorem dX1_leastThrough_41 : decode cX1_leastThrough 41 = .ok (.iload_n 1, 1) := by decide +kernel
theorem dX1_leastThrough_42 : decode cX1_leastThrough 42 = .ok (.iaload, 1) := by decide +kernel
theorem dX1_leastThrough_43 : decode cX1_leastThrough 43 = .ok (.iconst 1, 1) := by decide +kernel
theorem dX1_leastThrough_44 : decode cX1_leastThrough 44 = .ok (.if_icmp .ne 23, 3) := by decide +kernel
theorem dX1_leastThrough_47 : decode cX1_leastThrough 47 = .ok (.iload_n 3, 1) := by decide +kernel
theorem dX1_leastThrough_48 : decode cX1_leastThrough 48 = .ok (.aload_n 0, 1) := by decide +kernel
theorem dX1_leastThrough_49 : decode cX1_leastThrough 49 = .ok (.iload_n 2, 1) := by decide +kernel
theorem dX1_leastThrough_50 : decode cX1_leastThrough 50 = .ok (.iconst 1, 1) := by decide +kernel
theorem dX1_leastThrough_51 : decode cX1_leastThrough 51 = .ok (.invokevirtual 199, 3) := by decide +kernel
theorem dX1_leastThrough_54 : decode cX1_leastThrough 54 = .ok (.aload_n 0, 1) := by decide +kernel
theorem dX1_leastThrough_55 : decode cX1_leastThrough 55 = .ok (.iload_n 2, 1) := by decide +kernel
theorem dX1_leastThrough_56 : decode cX1_leastThrough 56 = .ok (.iconst 2, 1) := by decide +kernel
theorem dX1_leastThrough_57 : decode cX1_leastThrough 57 = .ok (.invokevirtual 199, 3) := by decide +kernel
theorem dX1_leastThrough_60 : decode cX1_leastThrough 60 = .ok (.invokestatic 154, 3) := by decide +kernel
theorem dX1_leastThrough_63 : decode cX1_leastThrough 63 = .ok (.invokestatic 154, 3) := by decide +kernel
theorem dX1_leastThrough_66 : decode cX1_leastThrough 66 = .ok (.ireturn, 1) := by decide +kernel
theorem dX1_leastThrough_67 : decode cX1_leastThrough 67 = .ok (.iload_n 3, 1) := by decide +kernel
theorem dX1_leastThrough_68 : decode cX1_leastThrough 68 = .ok (.aload_n 0, 1) := by decide +kernel
theorem dX1_leastThrough_69 : decode cX1_leastThrough 69 = .ok (.iload_n 2, 1) := by decide +kernel
theorem dX1_leastThrough_70 : decode cX1_leastThrough 70 = .ok (.iconst 1, 1) := by decide +kernel
theorem dX1_leastThrough_71 : decode cX1_leastThrough 71 = .ok (.invokevirtual 199, 3) := by decide +kernel
theorem dX1_leastThrough_74 : decode cX1_leastThrough 74 = .ok (.aload_n 0, 1) := by decide +kernel
theorem dX1_leastThrough_75 : decode cX1_leastThrough 75 = .ok (.iload_n 2, 1) := by decide +kernel
theorem dX1_leastThrough_76 : decode cX1_leastThrough 76 = .ok (.iconst 0, 1) := by decide +kernel
theorem dX1_leastThrough_77 : decode cX1_leastThrough 77 = .ok (.invokevirtual 202, 3) := by decide +kernel
theorem dX1_leastThrough_80 : decode cX1_leastThrough 80 = .ok (.ineg, 1) := by decide +kernel
theorem dX1_leastThrough_81 : decode cX1_leastThrough 81 = .ok (.invokestatic 154, 3) := by decide +kernel
theorem dX1_leastThrough_84 : decode cX1_leastThrough 84 = .ok (.invokestatic 154, 3) := by decide +kernel
theorem dX1_leastThrough_87 : decode cX1_leastThrough 87 = .ok (.ireturn, 1) := by decide +kernel
set_option maxRecDepth 20000 in
theorem ggX1_mostThrough_X1_mostNet : GoodIn wsX1_mostThrough wsX1_mostNet := goodIn_r _ [10, 11, 12, 13, 14, 9, 15, 16, 17, 18, 19, 20, 21, 22, 23, 24, 25, 26, 27, 28, 4, 29, 53, 54, 55, 56, 57, 58, 59, 60, 61, 62, 63, 64, 65, 66, 67, 68] (by decide +kernel) (by decide +kernel)
set_option maxRecDepth 20000 in
theorem gX1_mostThrough_X1_mostNet : GoodIn wsX1_mostThrough (wsV RX1 173 RX1 yX1_mostNet wsX1_mostNet) := goodIn_app (goodIn_of _ (by decide +kernel)) ggX1_mostThrough_X1_mostNet
set_option maxRecDepth 20000 in
theorem ggX1_mostThrough_X1_mostRest : GoodIn wsX1_mostThrough wsX1_mostRest := goodIn_r _ [33, 34, 35, 36, 37, 38, 39, 40, 41, 42, 43, 44, 45, 46, 47, 48, 53, 54, 55, 56, 57, 58, 59, 60, 61, 62, 63, 64, 65, 66, 67, 68, 69, 70] (by decide +kernel) (by decide +kernel)
set_option maxRecDepth 20000 in
theorem gX1_mostThrough_X1_mostRest : GoodIn wsX1_mostThrough (wsV RX1 202 RX1 yX1_mostRest wsX1_mostRest) := goodIn_app (goodIn_of _ (by decide +kernel)) ggX1_mostThrough_X1_mostRest
set_option maxRecDepth 20000 in
theorem ggX1_mostThrough_X1_leastRest : GoodIn wsX1_mostThrough wsX1_leastRest := goodIn_r _ [52, 34, 44, 45, 46, 38, 47, 48, 41, 42, 43, 35, 36, 37, 39, 40, 53, 54, 55, 56, 57, 58, 59, 60, 61, 62, 63, 64, 65, 66, 67, 68, 69, 70] (by decide +kernel) (by decide +kernel)
set_option maxRecDepth 20000 in
theorem gX1_mostThrough_X1_leastRest : GoodIn wsX1_mostThrough (wsV RX1 199 RX1 yX1_leastRest wsX1_leastRest) := goodIn_app (goodIn_of _ (by decide +kernel)) ggX1_mostThrough_X1_leastRest
theorem dX1_mostThrough_0 : decode cX1_mostThrough 0 = .ok (.aload_n 0, 1) := by decide +kernel
theorem dX1_mostThrough_1 : decode cX1_mostThrough 1 = .ok (.iload_n 1, 1) := by decide +kernel
theorem dX1_mostThrough_2 : decode cX1_mostThrough 2 = .ok (.iload_n 2, 1) := by decide +kernel
theorem dX1_mostThrough_3 : decode cX1_mostThrough 3 = .ok (.iconst 0, 1) := by decide +kernel
theorem dX1_mostThrough_4 : decode cX1_mostThrough 4 = .ok (.invokevirtual 173, 3) := by decide +kernel
theorem dX1_mostThrough_7 : decode cX1_mostThrough 7 = .ok (.istore_n 3, 1) := by decide +kernel
theorem dX1_mostThrough_8 : decode cX1_mostThrough 8 = .ok (.aload_n 0, 1) := by decide +kernel
theorem dX1_mostThrough_9 : decode cX1_mostThrough 9 = .ok (.getfield 9, 3) := by decide +kernel
theorem dX1_mostThrough_12 : decode cX1_mostThrough 12 = .ok (.iload_n 1, 1) := by decide +kernel
theorem dX1_mostThrough_13 : decode cX1_mostThrough 13 = .ok (.iaload, 1) := by decide +kernel
theorem dX1_mostThrough_14 : decode cX1_mostThrough 14 = .ok (.ifCond .ne 23, 3) := by decide +kernel
theorem dX1_mostThrough_17 : decode cX1_mostThrough 17 = .ok (.iload_n 3, 1) := by decide +kernel
theorem dX1_mostThrough_18 : decode cX1_mostThrough 18 = .ok (.aload_n 0, 1) := by decide +kernel
theorem dX1_mostThrough_19 : decode cX1_mostThrough 19 = .ok (.iload_n 2, 1) := by decide +kernel
theorem dX1_mostThrough_20 : decode cX1_mostThrough 20 = .ok (.iconst 0, 1) := by decide +kernel
theorem dX1_mostThrough_21 : decode cX1_mostThrough 21 = .ok (.invokevirtual 202, 3) := by decide +kernel
theorem dX1_mostThrough_24 : decode cX1_mostThrough 24 = .ok (.aload_n 0, 1) := by decide +kernel
theorem dX1_mostThrough_25 : decode cX1_mostThrough 25 = .ok (.iload_n 2, 1) := by decide +kernel
theorem dX1_mostThrough_26 : decode cX1_mostThrough 26 = .ok (.iconst 2, 1) := by decide +kernel
theorem dX1_mostThrough_27 : decode cX1_mostThrough 27 = .ok (.invokevirtual 202, 3) := by decide +kernel
theorem dX1_mostThrough_30 : decode cX1_mostThrough 30 = .ok (.invokestatic 205, 3) := by decide +kernel
theorem dX1_mostThrough_33 : decode cX1_mostThrough 33 = .ok (.invokestatic 205, 3) := by decide +kernel
theorem dX1_mostThrough_36 : decode cX1_mostThrough 36 = .ok (.ireturn, 1) := by decide +kernel
theorem dX1_mostThrough_37 : decode cX1_mostThrough 37 = .ok (.aload_n 0, 1) := by decide +kernel
theorem dX1_mostThrough_38 : decode cX1_mostThrough 38 = .ok (.getfield 9, 3) := by decide +kernel
theorem dX1_mostThrough_41 : decode cX1_mostThrough 41 = .ok (.iload_n 1, 1) := by decide +kernel
theorem dX1_mostThrough_42 : decode cX1_mostThrough 42 = .ok (.iaload, 1) := by decide +kernel
theorem dX1_mostThrough_43 : decode cX1_mostThrough 43 = .ok (.iconst 1, 1) := by decide +kernel
theorem dX1_mostThrough_44 : decode cX1_mostThrough 44 = .ok (.if_icmp .ne 23, 3) := by decide +kernel
theorem dX1_mostThrough_47 : decode cX1_mostThrough 47 = .ok (.iload_n 3, 1) := by decide +kernel
theorem dX1_mostThrough_48 : decode cX1_mostThrough 48 = .ok (.aload_n 0, 1) := by decide +kernel
theorem dX1_mostThrough_49 : decode cX1_mostThrough 49 = .ok (.iload_n 2, 1) := by decide +kernel
theorem dX1_mostThrough_50 : decode cX1_mostThrough 50 = .ok (.iconst 1, 1) := by decide +kernel
theorem dX1_mostThrough_51 : decode cX1_mostThrough 51 = .ok (.invokevirtual 202, 3) := by decide +kernel
theorem dX1_mostThrough_54 : decode cX1_mostThrough 54 = .ok (.aload_n 0, 1) := by decide +kernel
theorem dX1_mostThrough_55 : decode cX1_mostThrough 55 = .ok (.iload_n 2, 1) := by decide +kernel
theorem dX1_mostThrough_56 : decode cX1_mostThrough 56 = .ok (.iconst 2, 1) := by decide +kernel
theorem dX1_mostThrough_57 : decode cX1_mostThrough 57 = .ok (.invokevirtual 202, 3) := by decide +kernel
theorem dX1_mostThrough_60 : decode cX1_mostThrough 60 = .ok (.invokestatic 205, 3) := by decide +kernel
theorem dX1_mostThrough_63 : decode cX1_mostThrough 63 = .ok (.invokestatic 205, 3) := by decide +kernel
theorem dX1_mostThrough_66 : decode cX1_mostThrough 66 = .ok (.ireturn, 1) := by decide +kernel
theorem dX1_mostThrough_67 : decode cX1_mostThrough 67 = .ok (.iload_n 3, 1) := by decide +kernel
theorem dX1_mostThrough_68 : decode cX1_mostThrough 68 = .ok (.aload_n 0, 1) := by decide +kernel
theorem dX1_mostThrough_69 : decode cX1_mostThrough 69 = .ok (.iload_n 2, 1) := by decide +kernel
theorem dX1_mostThrough_70 : decode cX1_mostThrough 70 = .ok (.iconst 1, 1) := by decide +kernel
theorem dX1_mostThrough_71 : decode cX1_mostThrough 71 = .ok (.invokevirtual 202, 3) := by decide +kernel
theorem dX1_mostThrough_74 : decode cX1_mostThrough 74 = .ok (.aload_n 0, 1) := by decide +kernel
theorem dX1_mostThrough_75 : decode cX1_mostThrough 75 = .ok (.iload_n 2, 1) := by decide +kernel
theorem dX1_mostThrough_76 : decode cX1_mostThrough 76 = .ok (.iconst 0, 1) := by decide +kernel
theorem dX1_mostThrough_77 : decode cX1_mostThrough 77 = .ok (.invokevirtual 199, 3) := by decide +kernel
theorem dX1_mostThrough_80 : decode cX1_mostThrough 80 = .ok (.ineg, 1) := by decide +kernel
theorem dX1_mostThrough_81 : decode cX1_mostThrough 81 = .ok (.invokestatic 205, 3) := by decide +kernel
theorem dX1_mostThrough_84 : decode cX1_mostThrough 84 = .ok (.invokestatic 205, 3) := by decide +kernel
theorem dX1_mostThrough_87 : decode cX1_mostThrough 87 = .ok (.ireturn, 1) := by decide +kernel
set_option maxRecDepth 20000 in
theorem ggX1_leastRest_X0_low : GoodIn wsX1_leastRest wsX0_low := goodIn_r _ [6, 7, 8, 9, 5, 10, 32, 33] (by decide +kernel) (by decide +kernel)
set_option maxRecDepth 20000 in
theorem gX1_leastRest_X0_low : GoodIn wsX1_leastRest (wsV RX1 111 RX0 yX0_low wsX0_low) := goodIn_app (goodIn_of _ (by decide +kernel)) ggX1_leastRest_X0_low
set_option maxRecDepth 20000 in
theorem ggX1_leastRest_X0_high : GoodIn wsX1_leastRest wsX0_high := goodIn_r _ [14, 15, 8, 9, 5, 10, 32, 33] (by decide +kernel) (by decide +kernel)
set_option maxRecDepth 20000 in
theorem gX1_leastRest_X0_high : GoodIn wsX1_leastRest (wsV RX1 108 RX0 yX0_high wsX0_high) := goodIn_app (goodIn_of _ (by decide +kernel)) ggX1_leastRest_X0_high
theorem dX1_leastRest_0 : decode cX1_leastRest 0 = .ok (.aload_n 0, 1) := by decide +kernel
theorem dX1_leastRest_1 : decode cX1_leastRest 1 = .ok (.getfield 49, 3) := by decide +kernel
theorem dX1_leastRest_4 : decode cX1_leastRest 4 = .ok (.iload_n 1, 1) := by decide +kernel
theorem dX1_leastRest_5 : decode cX1_leastRest 5 = .ok (.iconst 1, 1) := by decide +kernel
theorem dX1_leastRest_6 : decode cX1_leastRest 6 = .ok (.iadd, 1) := by decide +kernel
theorem dX1_leastRest_7 : decode cX1_leastRest 7 = .ok (.iload_n 2, 1) := by decide +kernel
theorem dX1_leastRest_8 : decode cX1_leastRest 8 = .ok (.invokevirtual 111, 3) := by decide +kernel
theorem dX1_leastRest_11 : decode cX1_leastRest 11 = .ok (.aload_n 0, 1) := by decide +kernel
theorem dX1_leastRest_12 : decode cX1_leastRest 12 = .ok (.getfield 49, 3) := by decide +kernel
theorem dX1_leastRest_15 : decode cX1_leastRest 15 = .ok (.iload_n 1, 1) := by decide +kernel
theorem dX1_leastRest_16 : decode cX1_leastRest 16 = .ok (.iload_n 2, 1) := by decide +kernel
theorem dX1_leastRest_17 : decode cX1_leastRest 17 = .ok (.invokevirtual 108, 3) := by decide +kernel
theorem dX1_leastRest_20 : decode cX1_leastRest 20 = .ok (.isub, 1) := by decide +kernel
theorem dX1_leastRest_21 : decode cX1_leastRest 21 = .ok (.aload_n 0, 1) := by decide +kernel
theorem dX1_leastRest_22 : decode cX1_leastRest 22 = .ok (.getfield 49, 3) := by decide +kernel
theorem dX1_leastRest_25 : decode cX1_leastRest 25 = .ok (.bipush 61, 2) := by decide +kernel
theorem dX1_leastRest_27 : decode cX1_leastRest 27 = .ok (.iload_n 2, 1) := by decide +kernel
theorem dX1_leastRest_28 : decode cX1_leastRest 28 = .ok (.invokevirtual 108, 3) := by decide +kernel
theorem dX1_leastRest_31 : decode cX1_leastRest 31 = .ok (.isub, 1) := by decide +kernel
theorem dX1_leastRest_32 : decode cX1_leastRest 32 = .ok (.ireturn, 1) := by decide +kernel
set_option maxRecDepth 20000 in
theorem ggX1_mostRest_X0_high : GoodIn wsX1_mostRest wsX0_high := goodIn_r _ [6, 7, 8, 9, 5, 10, 32, 33] (by decide +kernel) (by decide +kernel)
set_option maxRecDepth 20000 in
theorem gX1_mostRest_X0_high : GoodIn wsX1_mostRest (wsV RX1 108 RX0 yX0_high wsX0_high) := goodIn_app (goodIn_of _ (by decide +kernel)) ggX1_mostRest_X0_high
set_option maxRecDepth 20000 in
theorem ggX1_mostRest_X0_low : GoodIn wsX1_mostRest wsX0_low := goodIn_r _ [14, 15, 8, 9, 5, 10, 32, 33] (by decide +kernel) (by decide +kernel)
set_option maxRecDepth 20000 in
theorem gX1_mostRest_X0_low : GoodIn wsX1_mostRest (wsV RX1 111 RX0 yX0_low wsX0_low) := goodIn_app (goodIn_of _ (by decide +kernel)) ggX1_mostRest_X0_low
theorem dX1_mostRest_0 : decode cX1_mostRest 0 = .ok (.aload_n 0, 1) := by decide +kernel
theorem dX1_mostRest_1 : decode cX1_mostRest 1 = .ok (.getfield 49, 3) := by decide +kernel
theorem dX1_mostRest_4 : decode cX1_mostRest 4 = .ok (.iload_n 1, 1) := by decide +kernel
theorem dX1_mostRest_5 : decode cX1_mostRest 5 = .ok (.iconst 1, 1) := by decide +kernel
theorem dX1_mostRest_6 : decode cX1_mostRest 6 = .ok (.iadd, 1) := by decide +kernel
theorem dX1_mostRest_7 : decode cX1_mostRest 7 = .ok (.iload_n 2, 1) := by decide +kernel
theorem dX1_mostRest_8 : decode cX1_mostRest 8 = .ok (.invokevirtual 108, 3) := by decide +kernel
theorem dX1_mostRest_11 : decode cX1_mostRest 11 = .ok (.aload_n 0, 1) := by decide +kernel
theorem dX1_mostRest_12 : decode cX1_mostRest 12 = .ok (.getfield 49, 3) := by decide +kernel
theorem dX1_mostRest_15 : decode cX1_mostRest 15 = .ok (.iload_n 1, 1) := by decide +kernel
theorem dX1_mostRest_16 : decode cX1_mostRest 16 = .ok (.iload_n 2, 1) := by decide +kernel
theorem dX1_mostRest_17 : decode cX1_mostRest 17 = .ok (.invokevirtual 111, 3) := by decide +kernel
theorem dX1_mostRest_20 : decode cX1_mostRest 20 = .ok (.isub, 1) := by decide +kernel
theorem dX1_mostRest_21 : decode cX1_mostRest 21 = .ok (.aload_n 0, 1) := by decide +kernel
theorem dX1_mostRest_22 : decode cX1_mostRest 22 = .ok (.getfield 49, 3) := by decide +kernel
theorem dX1_mostRest_25 : decode cX1_mostRest 25 = .ok (.bipush 61, 2) := by decide +kernel
theorem dX1_mostRest_27 : decode cX1_mostRest 27 = .ok (.iload_n 2, 1) := by decide +kernel
theorem dX1_mostRest_28 : decode cX1_mostRest 28 = .ok (.invokevirtual 111, 3) := by decide +kernel
theorem dX1_mostRest_31 : decode cX1_mostRest 31 = .ok (.isub, 1) := by decide +kernel
theorem dX1_mostRest_32 : decode cX1_mostRest 32 = .ok (.ireturn, 1) := by decide +kernel
set_option maxRecDepth 20000 in
theorem ggX2_init_X2_clear : GoodIn wsX2_init wsX2_clear := goodIn_r _ [26, 4, 27, 28, 10, 11, 12, 13, 29, 30, 31, 32, 33, 34, 35, 36, 37, 38, 39, 40, 41, 42, 43, 44, 45, 46, 47, 48, 49] (by decide +kernel) (by decide +kernel)
set_option maxRecDepth 20000 in
theorem gX2_init_X2_clear : GoodIn wsX2_init (wsV RX2 62 RX2 yX2_clear wsX2_clear) := goodIn_app (goodIn_of _ (by decide +kernel)) ggX2_init_X2_clear
theorem dX2_init_0 : decode cX2_init 0 = .ok (.aload_n 0, 1) := by decide +kernel
theorem dX2_init_1 : decode cX2_init 1 = .ok (.invokespecial 1, 3) := by decide +kernel
theorem dX2_init_4 : decode cX2_init 4 = .ok (.aload_n 0, 1) := by decide +kernel
theorem dX2_init_5 : decode cX2_init 5 = .ok (.iconst 1, 1) := by decide +kernel
theorem dX2_init_6 : decode cX2_init 6 = .ok (.putfield 7, 3) := by decide +kernel
theorem dX2_init_9 : decode cX2_init 9 = .ok (.aload_n 0, 1) := by decide +kernel
theorem dX2_init_10 : decode cX2_init 10 = .ok (.bipush 6, 2) := by decide +kernel
theorem dX2_init_12 : decode cX2_init 12 = .ok (.newarray .int, 2) := by decide +kernel
theorem dX2_init_14 : decode cX2_init 14 = .ok (.putfield 13, 3) := by decide +kernel
theorem dX2_init_17 : decode cX2_init 17 = .ok (.aload_n 0, 1) := by decide +kernel
theorem dX2_init_18 : decode cX2_init 18 = .ok (.bipush 6, 2) := by decide +kernel
theorem dX2_init_20 : decode cX2_init 20 = .ok (.newarray .int, 2) := by decide +kernel
theorem dX2_init_22 : decode cX2_init 22 = .ok (.putfield 17, 3) := by decide +kernel
theorem dX2_init_25 : decode cX2_init 25 = .ok (.aload_n 0, 1) := by decide +kernel
theorem dX2_init_26 : decode cX2_init 26 = .ok (.bipush 6, 2) := by decide +kernel
theorem dX2_init_28 : decode cX2_init 28 = .ok (.newarray .int, 2) := by decide +kernel
theorem dX2_init_30 : decode cX2_init 30 = .ok (.putfield 20, 3) := by decide +kernel
theorem dX2_init_33 : decode cX2_init 33 = .ok (.aload_n 0, 1) := by decide +kernel
theorem dX2_init_34 : decode cX2_init 34 = .ok (.bipush 6, 2) := by decide +kernel
theorem dX2_init_36 : decode cX2_init 36 = .ok (.newarray .int, 2) := by decide +kernel
theorem dX2_init_38 : decode cX2_init 38 = .ok (.putfield 23, 3) := by decide +kernel
theorem dX2_init_41 : decode cX2_init 41 = .ok (.aload_n 0, 1) := by decide +kernel
theorem dX2_init_42 : decode cX2_init 42 = .ok (.sipush 360, 3) := by decide +kernel
theorem dX2_init_45 : decode cX2_init 45 = .ok (.newarray .int, 2) := by decide +kernel
theorem dX2_init_47 : decode cX2_init 47 = .ok (.putfield 26, 3) := by decide +kernel
theorem dX2_init_50 : decode cX2_init 50 = .ok (.aload_n 0, 1) := by decide +kernel
theorem dX2_init_51 : decode cX2_init 51 = .ok (.sipush 360, 3) := by decide +kernel
theorem dX2_init_54 : decode cX2_init 54 = .ok (.newarray .int, 2) := by decide +kernel
theorem dX2_init_56 : decode cX2_init 56 = .ok (.putfield 29, 3) := by decide +kernel
theorem dX2_init_59 : decode cX2_init 59 = .ok (.aload_n 0, 1) := by decide +kernel
theorem dX2_init_60 : decode cX2_init 60 = .ok (.iconst 2, 1) := by decide +kernel
theorem dX2_init_61 : decode cX2_init 61 = .ok (.newarray .int, 2) := by decide +kernel
theorem dX2_init_63 : decode cX2_init 63 = .ok (.putfield 32, 3) := by decide +kernel
theorem dX2_init_66 : decode cX2_init 66 = .ok (.aload_n 0, 1) := by decide +kernel
theorem dX2_init_67 : decode cX2_init 67 = .ok (.iconst 2, 1) := by decide +kernel
theorem dX2_init_68 : decode cX2_init 68 = .ok (.newarray .int, 2) := by decide +kernel
theorem dX2_init_70 : decode cX2_init 70 = .ok (.putfield 35, 3) := by decide +kernel
theorem dX2_init_73 : decode cX2_init 73 = .ok (.aload_n 0, 1) := by decide +kernel
theorem dX2_init_74 : decode cX2_init 74 = .ok (.bipush 20, 2) := by decide +kernel
theorem dX2_init_76 : decode cX2_init 76 = .ok (.newarray .int, 2) := by decide +kernel
theorem dX2_init_78 : decode cX2_init 78 = .ok (.putfield 38, 3) := by decide +kernel
theorem dX2_init_81 : decode cX2_init 81 = .ok (.aload_n 0, 1) := by decide +kernel
theorem dX2_init_82 : decode cX2_init 82 = .ok (.bipush 20, 2) := by decide +kernel
theorem dX2_init_84 : decode cX2_init 84 = .ok (.newarray .int, 2) := by decide +kernel
theorem dX2_init_86 : decode cX2_init 86 = .ok (.putfield 41, 3) := by decide +kernel
theorem dX2_init_89 : decode cX2_init 89 = .ok (.aload_n 0, 1) := by decide +kernel
theorem dX2_init_90 : decode cX2_init 90 = .ok (.bipush 20, 2) := by decide +kernel
theorem dX2_init_92 : decode cX2_init 92 = .ok (.newarray .int, 2) := by decide +kernel
theorem dX2_init_94 : decode cX2_init 94 = .ok (.putfield 44, 3) := by decide +kernel
theorem dX2_init_97 : decode cX2_init 97 = .ok (.aload_n 0, 1) := by decide +kernel
theorem dX2_init_98 : decode cX2_init 98 = .ok (.bipush 20, 2) := by decide +kernel
theorem dX2_init_100 : decode cX2_init 100 = .ok (.newarray .int, 2) := by decide +kernel
theorem dX2_init_102 : decode cX2_init 102 = .ok (.putfield 47, 3) := by decide +kernel
theorem dX2_init_105 : decode cX2_init 105 = .ok (.aload_n 0, 1) := by decide +kernel
theorem dX2_init_106 : decode cX2_init 106 = .ok (.sipush 366, 3) := by decide +kernel
theorem dX2_init_109 : decode cX2_init 109 = .ok (.newarray .int, 2) := by decide +kernel
theorem dX2_init_111 : decode cX2_init 111 = .ok (.putfield 50, 3) := by decide +kernel
theorem dX2_init_114 : decode cX2_init 114 = .ok (.aload_n 0, 1) := by decide +kernel
theorem dX2_init_115 : decode cX2_init 115 = .ok (.sipush 366, 3) := by decide +kernel
theorem dX2_init_118 : decode cX2_init 118 = .ok (.newarray .int, 2) := by decide +kernel
theorem dX2_init_120 : decode cX2_init 120 = .ok (.putfield 53, 3) := by decide +kernel
theorem dX2_init_123 : decode cX2_init 123 = .ok (.aload_n 0, 1) := by decide +kernel
theorem dX2_init_124 : decode cX2_init 124 = .ok (.sipush 366, 3) := by decide +kernel
theorem dX2_init_127 : decode cX2_init 127 = .ok (.newarray .int, 2) := by decide +kernel
theorem dX2_init_129 : decode cX2_init 129 = .ok (.putfield 56, 3) := by decide +kernel
theorem dX2_init_132 : decode cX2_init 132 = .ok (.aload_n 0, 1) := by decide +kernel
theorem dX2_init_133 : decode cX2_init 133 = .ok (.bipush 6, 2) := by decide +kernel
theorem dX2_init_135 : decode cX2_init 135 = .ok (.newarray .int, 2) := by decide +kernel
theorem dX2_init_137 : decode cX2_init 137 = .ok (.putfield 59, 3) := by decide +kernel
theorem dX2_init_140 : decode cX2_init 140 = .ok (.aload_n 0, 1) := by decide +kernel
theorem dX2_init_141 : decode cX2_init 141 = .ok (.iconst 1, 1) := by decide +kernel
theorem dX2_init_142 : decode cX2_init 142 = .ok (.invokevirtual 62, 3) := by decide +kernel
theorem dX2_init_145 : decode cX2_init 145 = .ok (.return_, 1) := by decide +kernel
theorem dX2_thrown_0 : decode cX2_thrown 0 = .ok (.aload_n 0, 1) := by decide +kernel
theorem dX2_thrown_1 : decode cX2_thrown 1 = .ok (.getfield 66, 3) := by decide +kernel
theorem dX2_thrown_4 : decode cX2_thrown 4 = .ok (.ireturn, 1) := by decide +kernel
theorem dX2_clear_0 : decode cX2_clear 0 = .ok (.aload_n 0, 1) := by decide +kernel
theorem dX2_clear_1 : decode cX2_clear 1 = .ok (.iload_n 1, 1) := by decide +kernel
theorem dX2_clear_2 : decode cX2_clear 2 = .ok (.putfield 7, 3) := by decide +kernel
theorem dX2_clear_5 : decode cX2_clear 5 = .ok (.aload_n 0, 1) := by decide +kernel
theorem dX2_clear_6 : decode cX2_clear 6 = .ok (.iconst 0, 1) := by decide +kernel
theorem dX2_clear_7 : decode cX2_clear 7 = .ok (.putfield 69, 3) := by decide +kernel
theorem dX2_clear_10 : decode cX2_clear 10 = .ok (.aload_n 0, 1) := by decide +kernel
theorem dX2_clear_11 : decode cX2_clear 11 = .ok (.iconst 0, 1) := by decide +kernel
theorem dX2_clear_12 : decode cX2_clear 12 = .ok (.putfield 72, 3) := by decide +kernel
theorem dX2_clear_15 : decode cX2_clear 15 = .ok (.iconst 0, 1) := by decide +kernel
theorem dX2_clear_16 : decode cX2_clear 16 = .ok (.istore_n 2, 1) := by decide +kernel
theorem dX2_clear_17 : decode cX2_clear 17 = .ok (.iload_n 2, 1) := by decide +kernel
theorem dX2_clear_18 : decode cX2_clear 18 = .ok (.sipush 360, 3) := by decide +kernel
theorem dX2_clear_21 : decode cX2_clear 21 = .ok (.if_icmp .ge 23, 3) := by decide +kernel
theorem dX2_clear_24 : decode cX2_clear 24 = .ok (.aload_n 0, 1) := by decide +kernel
theorem dX2_clear_25 : decode cX2_clear 25 = .ok (.getfield 26, 3) := by decide +kernel
theorem dX2_clear_28 : decode cX2_clear 28 = .ok (.iload_n 2, 1) := by decide +kernel
theorem dX2_clear_29 : decode cX2_clear 29 = .ok (.iconst (-1), 1) := by decide +kernel
theorem dX2_clear_30 : decode cX2_clear 30 = .ok (.iastore, 1) := by decide +kernel
theorem dX2_clear_31 : decode cX2_clear 31 = .ok (.aload_n 0, 1) := by decide +kernel
theorem dX2_clear_32 : decode cX2_clear 32 = .ok (.getfield 29, 3) := by decide +kernel
theorem dX2_clear_35 : decode cX2_clear 35 = .ok (.iload_n 2, 1) := by decide +kernel
theorem dX2_clear_36 : decode cX2_clear 36 = .ok (.iconst (-1), 1) := by decide +kernel
theorem dX2_clear_37 : decode cX2_clear 37 = .ok (.iastore, 1) := by decide +kernel
theorem dX2_clear_38 : decode cX2_clear 38 = .ok (.iinc 2 1, 3) := by decide +kernel
theorem dX2_clear_41 : decode cX2_clear 41 = .ok (.goto (-24), 3) := by decide +kernel
theorem dX2_clear_44 : decode cX2_clear 44 = .ok (.iconst 0, 1) := by decide +kernel
theorem dX2_clear_45 : decode cX2_clear 45 = .ok (.istore_n 2, 1) := by decide +kernel
theorem dX2_clear_46 : decode cX2_clear 46 = .ok (.iload_n 2, 1) := by decide +kernel
theorem dX2_clear_47 : decode cX2_clear 47 = .ok (.iconst 2, 1) := by decide +kernel
theorem dX2_clear_48 : decode cX2_clear 48 = .ok (.if_icmp .ge 23, 3) := by decide +kernel
theorem dX2_clear_51 : decode cX2_clear 51 = .ok (.aload_n 0, 1) := by decide +kernel
theorem dX2_clear_52 : decode cX2_clear 52 = .ok (.getfield 32, 3) := by decide +kernel
theorem dX2_clear_55 : decode cX2_clear 55 = .ok (.iload_n 2, 1) := by decide +kernel
theorem dX2_clear_56 : decode cX2_clear 56 = .ok (.iconst 0, 1) := by decide +kernel
end
section
theorem dX2_clear_57 : decode cX2_clear 57 = .ok (.iastore, 1) := by decide +kernel
theorem dX2_clear_58 : decode cX2_clear 58 = .ok (.aload_n 0, 1) := by decide +kernel
theorem dX2_clear_59 : decode cX2_clear 59 = .ok (.getfield 35, 3) := by decide +kernel
theorem dX2_clear_62 : decode cX2_clear 62 = .ok (.iload_n 2, 1) := by decide +kernel
theorem dX2_clear_63 : decode cX2_clear 63 = .ok (.iconst 0, 1) := by decide +kernel
theorem dX2_clear_64 : decode cX2_clear 64 = .ok (.iastore, 1) := by decide +kernel
theorem dX2_clear_65 : decode cX2_clear 65 = .ok (.iinc 2 1, 3) := by decide +kernel
theorem dX2_clear_68 : decode cX2_clear 68 = .ok (.goto (-22), 3) := by decide +kernel
theorem dX2_clear_71 : decode cX2_clear 71 = .ok (.return_, 1) := by decide +kernel
set_option maxRecDepth 20000 in
theorem ggX2_day_X2_clear : GoodIn wsX2_day wsX2_clear := goodIn_r _ [6, 7, 8, 9, 10, 11, 12, 13, 14, 15, 16, 17, 18, 19, 20, 21, 22, 23, 24, 25, 26, 27, 28, 29, 30, 31, 32, 33, 34] (by decide +kernel) (by decide +kernel)
set_option maxRecDepth 20000 in
theorem gX2_day_X2_clear : GoodIn wsX2_day (wsV RX2 62 RX2 yX2_clear wsX2_clear) := goodIn_app (goodIn_of _ (by decide +kernel)) ggX2_day_X2_clear
theorem dX2_day_0 : decode cX2_day 0 = .ok (.aload_n 0, 1) := by decide +kernel
theorem dX2_day_1 : decode cX2_day 1 = .ok (.iconst 0, 1) := by decide +kernel
theorem dX2_day_2 : decode cX2_day 2 = .ok (.putfield 66, 3) := by decide +kernel
theorem dX2_day_5 : decode cX2_day 5 = .ok (.iload_n 1, 1) := by decide +kernel
theorem dX2_day_6 : decode cX2_day 6 = .ok (.iconst 1, 1) := by decide +kernel
theorem dX2_day_7 : decode cX2_day 7 = .ok (.if_icmp .lt 9, 3) := by decide +kernel
theorem dX2_day_10 : decode cX2_day 10 = .ok (.iload_n 1, 1) := by decide +kernel
theorem dX2_day_11 : decode cX2_day 11 = .ok (.bipush 60, 2) := by decide +kernel
theorem dX2_day_13 : decode cX2_day 13 = .ok (.if_icmp .le 5, 3) := by decide +kernel
theorem dX2_day_16 : decode cX2_day 16 = .ok (.iconst 0, 1) := by decide +kernel
theorem dX2_day_17 : decode cX2_day 17 = .ok (.ireturn, 1) := by decide +kernel
theorem dX2_day_18 : decode cX2_day 18 = .ok (.aload_n 0, 1) := by decide +kernel
theorem dX2_day_19 : decode cX2_day 19 = .ok (.iload_n 1, 1) := by decide +kernel
theorem dX2_day_20 : decode cX2_day 20 = .ok (.invokevirtual 62, 3) := by decide +kernel
theorem dX2_day_23 : decode cX2_day 23 = .ok (.iconst 1, 1) := by decide +kernel
theorem dX2_day_24 : decode cX2_day 24 = .ok (.ireturn, 1) := by decide +kernel
theorem dX2_door_0 : decode cX2_door 0 = .ok (.aload_n 0, 1) := by decide +kernel
theorem dX2_door_1 : decode cX2_door 1 = .ok (.iconst 0, 1) := by decide +kernel
theorem dX2_door_2 : decode cX2_door 2 = .ok (.putfield 66, 3) := by decide +kernel
theorem dX2_door_5 : decode cX2_door 5 = .ok (.aload_n 0, 1) := by decide +kernel
theorem dX2_door_6 : decode cX2_door 6 = .ok (.getfield 69, 3) := by decide +kernel
theorem dX2_door_9 : decode cX2_door 9 = .ok (.bipush 6, 2) := by decide +kernel
theorem dX2_door_11 : decode cX2_door 11 = .ok (.if_icmp .eq 42, 3) := by decide +kernel
theorem dX2_door_14 : decode cX2_door 14 = .ok (.iload_n 1, 1) := by decide +kernel
theorem dX2_door_15 : decode cX2_door 15 = .ok (.ifCond .lt 38, 3) := by decide +kernel
theorem dX2_door_18 : decode cX2_door 18 = .ok (.iload_n 1, 1) := by decide +kernel
theorem dX2_door_19 : decode cX2_door 19 = .ok (.iconst 2, 1) := by decide +kernel
theorem dX2_door_20 : decode cX2_door 20 = .ok (.if_icmp .gt 33, 3) := by decide +kernel
theorem dX2_door_23 : decode cX2_door 23 = .ok (.iload_n 2, 1) := by decide +kernel
theorem dX2_door_24 : decode cX2_door 24 = .ok (.ifCond .lt 29, 3) := by decide +kernel
theorem dX2_door_27 : decode cX2_door 27 = .ok (.iload_n 2, 1) := by decide +kernel
theorem dX2_door_28 : decode cX2_door 28 = .ok (.iconst 5, 1) := by decide +kernel
theorem dX2_door_29 : decode cX2_door 29 = .ok (.if_icmp .gt 24, 3) := by decide +kernel
theorem dX2_door_32 : decode cX2_door 32 = .ok (.iload_n 3, 1) := by decide +kernel
theorem dX2_door_33 : decode cX2_door 33 = .ok (.ifCond .lt 20, 3) := by decide +kernel
theorem dX2_door_36 : decode cX2_door 36 = .ok (.iload_n 3, 1) := by decide +kernel
theorem dX2_door_37 : decode cX2_door 37 = .ok (.iconst 5, 1) := by decide +kernel
theorem dX2_door_38 : decode cX2_door 38 = .ok (.if_icmp .gt 15, 3) := by decide +kernel
theorem dX2_door_41 : decode cX2_door 41 = .ok (.iload 4, 2) := by decide +kernel
theorem dX2_door_43 : decode cX2_door 43 = .ok (.ifCond .lt 10, 3) := by decide +kernel
theorem dX2_door_46 : decode cX2_door 46 = .ok (.iload 4, 2) := by decide +kernel
theorem dX2_door_48 : decode cX2_door 48 = .ok (.bipush 20, 2) := by decide +kernel
theorem dX2_door_50 : decode cX2_door 50 = .ok (.if_icmp .le 5, 3) := by decide +kernel
theorem dX2_door_53 : decode cX2_door 53 = .ok (.iconst (-1), 1) := by decide +kernel
theorem dX2_door_54 : decode cX2_door 54 = .ok (.ireturn, 1) := by decide +kernel
theorem dX2_door_55 : decode cX2_door 55 = .ok (.aload_n 0, 1) := by decide +kernel
theorem dX2_door_56 : decode cX2_door 56 = .ok (.getfield 13, 3) := by decide +kernel
theorem dX2_door_59 : decode cX2_door 59 = .ok (.aload_n 0, 1) := by decide +kernel
theorem dX2_door_60 : decode cX2_door 60 = .ok (.getfield 69, 3) := by decide +kernel
theorem dX2_door_63 : decode cX2_door 63 = .ok (.iload_n 1, 1) := by decide +kernel
theorem dX2_door_64 : decode cX2_door 64 = .ok (.iastore, 1) := by decide +kernel
theorem dX2_door_65 : decode cX2_door 65 = .ok (.aload_n 0, 1) := by decide +kernel
theorem dX2_door_66 : decode cX2_door 66 = .ok (.getfield 17, 3) := by decide +kernel
theorem dX2_door_69 : decode cX2_door 69 = .ok (.aload_n 0, 1) := by decide +kernel
theorem dX2_door_70 : decode cX2_door 70 = .ok (.getfield 69, 3) := by decide +kernel
theorem dX2_door_73 : decode cX2_door 73 = .ok (.iload_n 2, 1) := by decide +kernel
theorem dX2_door_74 : decode cX2_door 74 = .ok (.iastore, 1) := by decide +kernel
theorem dX2_door_75 : decode cX2_door 75 = .ok (.aload_n 0, 1) := by decide +kernel
theorem dX2_door_76 : decode cX2_door 76 = .ok (.getfield 20, 3) := by decide +kernel
theorem dX2_door_79 : decode cX2_door 79 = .ok (.aload_n 0, 1) := by decide +kernel
theorem dX2_door_80 : decode cX2_door 80 = .ok (.getfield 69, 3) := by decide +kernel
theorem dX2_door_83 : decode cX2_door 83 = .ok (.iload_n 3, 1) := by decide +kernel
theorem dX2_door_84 : decode cX2_door 84 = .ok (.iastore, 1) := by decide +kernel
theorem dX2_door_85 : decode cX2_door 85 = .ok (.aload_n 0, 1) := by decide +kernel
theorem dX2_door_86 : decode cX2_door 86 = .ok (.getfield 23, 3) := by decide +kernel
theorem dX2_door_89 : decode cX2_door 89 = .ok (.aload_n 0, 1) := by decide +kernel
theorem dX2_door_90 : decode cX2_door 90 = .ok (.getfield 69, 3) := by decide +kernel
theorem dX2_door_93 : decode cX2_door 93 = .ok (.iload 4, 2) := by decide +kernel
theorem dX2_door_95 : decode cX2_door 95 = .ok (.iastore, 1) := by decide +kernel
theorem dX2_door_96 : decode cX2_door 96 = .ok (.aload_n 0, 1) := by decide +kernel
theorem dX2_door_97 : decode cX2_door 97 = .ok (.dup, 1) := by decide +kernel
theorem dX2_door_98 : decode cX2_door 98 = .ok (.getfield 69, 3) := by decide +kernel
theorem dX2_door_101 : decode cX2_door 101 = .ok (.iconst 1, 1) := by decide +kernel
theorem dX2_door_102 : decode cX2_door 102 = .ok (.iadd, 1) := by decide +kernel
theorem dX2_door_103 : decode cX2_door 103 = .ok (.putfield 69, 3) := by decide +kernel
theorem dX2_door_106 : decode cX2_door 106 = .ok (.aload_n 0, 1) := by decide +kernel
theorem dX2_door_107 : decode cX2_door 107 = .ok (.getfield 69, 3) := by decide +kernel
theorem dX2_door_110 : decode cX2_door 110 = .ok (.iconst 1, 1) := by decide +kernel
theorem dX2_door_111 : decode cX2_door 111 = .ok (.isub, 1) := by decide +kernel
theorem dX2_door_112 : decode cX2_door 112 = .ok (.ireturn, 1) := by decide +kernel
theorem dX2_isRow_0 : decode cX2_isRow 0 = .ok (.iload_n 1, 1) := by decide +kernel
theorem dX2_isRow_1 : decode cX2_isRow 1 = .ok (.ifCond .lt 27, 3) := by decide +kernel
theorem dX2_isRow_4 : decode cX2_isRow 4 = .ok (.iload_n 1, 1) := by decide +kernel
theorem dX2_isRow_5 : decode cX2_isRow 5 = .ok (.aload_n 0, 1) := by decide +kernel
theorem dX2_isRow_6 : decode cX2_isRow 6 = .ok (.getfield 69, 3) := by decide +kernel
theorem dX2_isRow_9 : decode cX2_isRow 9 = .ok (.if_icmp .ge 19, 3) := by decide +kernel
theorem dX2_isRow_12 : decode cX2_isRow 12 = .ok (.iload_n 2, 1) := by decide +kernel
theorem dX2_isRow_13 : decode cX2_isRow 13 = .ok (.ifCond .lt 15, 3) := by decide +kernel
theorem dX2_isRow_16 : decode cX2_isRow 16 = .ok (.iload_n 2, 1) := by decide +kernel
theorem dX2_isRow_17 : decode cX2_isRow 17 = .ok (.aload_n 0, 1) := by decide +kernel
theorem dX2_isRow_18 : decode cX2_isRow 18 = .ok (.getfield 7, 3) := by decide +kernel
theorem dX2_isRow_21 : decode cX2_isRow 21 = .ok (.if_icmp .ge 7, 3) := by decide +kernel
theorem dX2_isRow_24 : decode cX2_isRow 24 = .ok (.iconst 1, 1) := by decide +kernel
theorem dX2_isRow_25 : decode cX2_isRow 25 = .ok (.goto 4, 3) := by decide +kernel
theorem dX2_isRow_28 : decode cX2_isRow 28 = .ok (.iconst 0, 1) := by decide +kernel
theorem dX2_isRow_29 : decode cX2_isRow 29 = .ok (.ireturn, 1) := by decide +kernel
set_option maxRecDepth 20000 in
theorem ggX2_row_X2_isRow : GoodIn wsX2_row wsX2_isRow := goodIn_r _ [8, 9, 10, 11, 12, 13, 14, 15, 16, 17, 18, 19, 20, 21, 22, 23, 24, 25, 26, 27, 28, 29, 30, 31] (by decide +kernel) (by decide +kernel)
set_option maxRecDepth 20000 in
theorem gX2_row_X2_isRow : GoodIn wsX2_row (wsV RX2 75 RX2 yX2_isRow wsX2_isRow) := goodIn_app (goodIn_of _ (by decide +kernel)) ggX2_row_X2_isRow
theorem dX2_row_0 : decode cX2_row 0 = .ok (.aload_n 0, 1) := by decide +kernel
theorem dX2_row_1 : decode cX2_row 1 = .ok (.iconst 0, 1) := by decide +kernel
theorem dX2_row_2 : decode cX2_row 2 = .ok (.putfield 66, 3) := by decide +kernel
theorem dX2_row_5 : decode cX2_row 5 = .ok (.aload_n 0, 1) := by decide +kernel
theorem dX2_row_6 : decode cX2_row 6 = .ok (.iload_n 1, 1) := by decide +kernel
theorem dX2_row_7 : decode cX2_row 7 = .ok (.iload_n 2, 1) := by decide +kernel
theorem dX2_row_8 : decode cX2_row 8 = .ok (.invokevirtual 75, 3) := by decide +kernel
theorem dX2_row_11 : decode cX2_row 11 = .ok (.ifCond .eq 25, 3) := by decide +kernel
theorem dX2_row_14 : decode cX2_row 14 = .ok (.iload_n 3, 1) := by decide +kernel
theorem dX2_row_15 : decode cX2_row 15 = .ok (.ifCond .lt 21, 3) := by decide +kernel
theorem dX2_row_18 : decode cX2_row 18 = .ok (.iload_n 3, 1) := by decide +kernel
theorem dX2_row_19 : decode cX2_row 19 = .ok (.bipush 20, 2) := by decide +kernel
theorem dX2_row_21 : decode cX2_row 21 = .ok (.if_icmp .gt 15, 3) := by decide +kernel
theorem dX2_row_24 : decode cX2_row 24 = .ok (.iload 4, 2) := by decide +kernel
theorem dX2_row_26 : decode cX2_row 26 = .ok (.ifCond .lt 10, 3) := by decide +kernel
theorem dX2_row_29 : decode cX2_row 29 = .ok (.iload 4, 2) := by decide +kernel
theorem dX2_row_31 : decode cX2_row 31 = .ok (.bipush 20, 2) := by decide +kernel
theorem dX2_row_33 : decode cX2_row 33 = .ok (.if_icmp .le 5, 3) := by decide +kernel
theorem dX2_row_36 : decode cX2_row 36 = .ok (.iconst 0, 1) := by decide +kernel
theorem dX2_row_37 : decode cX2_row 37 = .ok (.ireturn, 1) := by decide +kernel
theorem dX2_row_38 : decode cX2_row 38 = .ok (.aload_n 0, 1) := by decide +kernel
theorem dX2_row_39 : decode cX2_row 39 = .ok (.getfield 26, 3) := by decide +kernel
theorem dX2_row_42 : decode cX2_row 42 = .ok (.bipush 60, 2) := by decide +kernel
theorem dX2_row_44 : decode cX2_row 44 = .ok (.iload_n 1, 1) := by decide +kernel
theorem dX2_row_45 : decode cX2_row 45 = .ok (.imul, 1) := by decide +kernel
theorem dX2_row_46 : decode cX2_row 46 = .ok (.iload_n 2, 1) := by decide +kernel
theorem dX2_row_47 : decode cX2_row 47 = .ok (.iadd, 1) := by decide +kernel
theorem dX2_row_48 : decode cX2_row 48 = .ok (.iload_n 3, 1) := by decide +kernel
theorem dX2_row_49 : decode cX2_row 49 = .ok (.iastore, 1) := by decide +kernel
theorem dX2_row_50 : decode cX2_row 50 = .ok (.aload_n 0, 1) := by decide +kernel
theorem dX2_row_51 : decode cX2_row 51 = .ok (.getfield 29, 3) := by decide +kernel
theorem dX2_row_54 : decode cX2_row 54 = .ok (.bipush 60, 2) := by decide +kernel
theorem dX2_row_56 : decode cX2_row 56 = .ok (.iload_n 1, 1) := by decide +kernel
theorem dX2_row_57 : decode cX2_row 57 = .ok (.imul, 1) := by decide +kernel
theorem dX2_row_58 : decode cX2_row 58 = .ok (.iload_n 2, 1) := by decide +kernel
theorem dX2_row_59 : decode cX2_row 59 = .ok (.iadd, 1) := by decide +kernel
theorem dX2_row_60 : decode cX2_row 60 = .ok (.iload 4, 2) := by decide +kernel
theorem dX2_row_62 : decode cX2_row 62 = .ok (.iastore, 1) := by decide +kernel
theorem dX2_row_63 : decode cX2_row 63 = .ok (.iconst 1, 1) := by decide +kernel
theorem dX2_row_64 : decode cX2_row 64 = .ok (.ireturn, 1) := by decide +kernel
set_option maxRecDepth 20000 in
theorem ggX2_lack_X2_isRow : GoodIn wsX2_lack wsX2_isRow := goodIn_r _ [8, 9, 10, 11, 12, 13, 14, 15, 16, 17, 18, 19, 20, 21, 22, 23, 24, 25, 26, 27, 28, 29, 30, 31] (by decide +kernel) (by decide +kernel)
set_option maxRecDepth 20000 in
theorem gX2_lack_X2_isRow : GoodIn wsX2_lack (wsV RX2 75 RX2 yX2_isRow wsX2_isRow) := goodIn_app (goodIn_of _ (by decide +kernel)) ggX2_lack_X2_isRow
theorem dX2_lack_0 : decode cX2_lack 0 = .ok (.aload_n 0, 1) := by decide +kernel
theorem dX2_lack_1 : decode cX2_lack 1 = .ok (.iconst 0, 1) := by decide +kernel
theorem dX2_lack_2 : decode cX2_lack 2 = .ok (.putfield 66, 3) := by decide +kernel
theorem dX2_lack_5 : decode cX2_lack 5 = .ok (.aload_n 0, 1) := by decide +kernel
theorem dX2_lack_6 : decode cX2_lack 6 = .ok (.iload_n 1, 1) := by decide +kernel
theorem dX2_lack_7 : decode cX2_lack 7 = .ok (.iload_n 2, 1) := by decide +kernel
theorem dX2_lack_8 : decode cX2_lack 8 = .ok (.invokevirtual 75, 3) := by decide +kernel
theorem dX2_lack_11 : decode cX2_lack 11 = .ok (.ifCond .eq 17, 3) := by decide +kernel
theorem dX2_lack_14 : decode cX2_lack 14 = .ok (.aload_n 0, 1) := by decide +kernel
theorem dX2_lack_15 : decode cX2_lack 15 = .ok (.iload_n 1, 1) := by decide +kernel
theorem dX2_lack_16 : decode cX2_lack 16 = .ok (.iload_n 3, 1) := by decide +kernel
theorem dX2_lack_17 : decode cX2_lack 17 = .ok (.invokevirtual 75, 3) := by decide +kernel
theorem dX2_lack_20 : decode cX2_lack 20 = .ok (.ifCond .eq 8, 3) := by decide +kernel
theorem dX2_lack_23 : decode cX2_lack 23 = .ok (.iload_n 2, 1) := by decide +kernel
theorem dX2_lack_24 : decode cX2_lack 24 = .ok (.iload_n 3, 1) := by decide +kernel
theorem dX2_lack_25 : decode cX2_lack 25 = .ok (.if_icmp .le 5, 3) := by decide +kernel
theorem dX2_lack_28 : decode cX2_lack 28 = .ok (.iconst 0, 1) := by decide +kernel
theorem dX2_lack_29 : decode cX2_lack 29 = .ok (.ireturn, 1) := by decide +kernel
theorem dX2_lack_30 : decode cX2_lack 30 = .ok (.iload_n 2, 1) := by decide +kernel
theorem dX2_lack_31 : decode cX2_lack 31 = .ok (.istore 4, 2) := by decide +kernel
theorem dX2_lack_33 : decode cX2_lack 33 = .ok (.iload 4, 2) := by decide +kernel
theorem dX2_lack_35 : decode cX2_lack 35 = .ok (.iload_n 3, 1) := by decide +kernel
theorem dX2_lack_36 : decode cX2_lack 36 = .ok (.if_icmp .gt 35, 3) := by decide +kernel
theorem dX2_lack_39 : decode cX2_lack 39 = .ok (.aload_n 0, 1) := by decide +kernel
theorem dX2_lack_40 : decode cX2_lack 40 = .ok (.getfield 26, 3) := by decide +kernel
theorem dX2_lack_43 : decode cX2_lack 43 = .ok (.bipush 60, 2) := by decide +kernel
theorem dX2_lack_45 : decode cX2_lack 45 = .ok (.iload_n 1, 1) := by decide +kernel
theorem dX2_lack_46 : decode cX2_lack 46 = .ok (.imul, 1) := by decide +kernel
theorem dX2_lack_47 : decode cX2_lack 47 = .ok (.iload 4, 2) := by decide +kernel
theorem dX2_lack_49 : decode cX2_lack 49 = .ok (.iadd, 1) := by decide +kernel
theorem dX2_lack_50 : decode cX2_lack 50 = .ok (.iconst (-1), 1) := by decide +kernel
theorem dX2_lack_51 : decode cX2_lack 51 = .ok (.iastore, 1) := by decide +kernel
theorem dX2_lack_52 : decode cX2_lack 52 = .ok (.aload_n 0, 1) := by decide +kernel
theorem dX2_lack_53 : decode cX2_lack 53 = .ok (.getfield 29, 3) := by decide +kernel
theorem dX2_lack_56 : decode cX2_lack 56 = .ok (.bipush 60, 2) := by decide +kernel
theorem dX2_lack_58 : decode cX2_lack 58 = .ok (.iload_n 1, 1) := by decide +kernel
theorem dX2_lack_59 : decode cX2_lack 59 = .ok (.imul, 1) := by decide +kernel
theorem dX2_lack_60 : decode cX2_lack 60 = .ok (.iload 4, 2) := by decide +kernel
theorem dX2_lack_62 : decode cX2_lack 62 = .ok (.iadd, 1) := by decide +kernel
theorem dX2_lack_63 : decode cX2_lack 63 = .ok (.iconst (-1), 1) := by decide +kernel
theorem dX2_lack_64 : decode cX2_lack 64 = .ok (.iastore, 1) := by decide +kernel
theorem dX2_lack_65 : decode cX2_lack 65 = .ok (.iinc 4 1, 3) := by decide +kernel
theorem dX2_lack_68 : decode cX2_lack 68 = .ok (.goto (-35), 3) := by decide +kernel
theorem dX2_lack_71 : decode cX2_lack 71 = .ok (.iconst 1, 1) := by decide +kernel
theorem dX2_lack_72 : decode cX2_lack 72 = .ok (.ireturn, 1) := by decide +kernel
theorem dX2_start_0 : decode cX2_start 0 = .ok (.aload_n 0, 1) := by decide +kernel
theorem dX2_start_1 : decode cX2_start 1 = .ok (.iconst 0, 1) := by decide +kernel
theorem dX2_start_2 : decode cX2_start 2 = .ok (.putfield 66, 3) := by decide +kernel
theorem dX2_start_5 : decode cX2_start 5 = .ok (.iload_n 1, 1) := by decide +kernel
theorem dX2_start_6 : decode cX2_start 6 = .ok (.ifCond .lt 24, 3) := by decide +kernel
theorem dX2_start_9 : decode cX2_start 9 = .ok (.iload_n 1, 1) := by decide +kernel
theorem dX2_start_10 : decode cX2_start 10 = .ok (.iconst 1, 1) := by decide +kernel
theorem dX2_start_11 : decode cX2_start 11 = .ok (.if_icmp .gt 19, 3) := by decide +kernel
theorem dX2_start_14 : decode cX2_start 14 = .ok (.iload_n 2, 1) := by decide +kernel
theorem dX2_start_15 : decode cX2_start 15 = .ok (.ifCond .lt 15, 3) := by decide +kernel
theorem dX2_start_18 : decode cX2_start 18 = .ok (.iload_n 3, 1) := by decide +kernel
theorem dX2_start_19 : decode cX2_start 19 = .ok (.iload_n 2, 1) := by decide +kernel
theorem dX2_start_20 : decode cX2_start 20 = .ok (.if_icmp .lt 10, 3) := by decide +kernel
theorem dX2_start_23 : decode cX2_start 23 = .ok (.iload_n 3, 1) := by decide +kernel
theorem dX2_start_24 : decode cX2_start 24 = .ok (.sipush 9999, 3) := by decide +kernel
theorem dX2_start_27 : decode cX2_start 27 = .ok (.if_icmp .le 5, 3) := by decide +kernel
theorem dX2_start_30 : decode cX2_start 30 = .ok (.iconst 0, 1) := by decide +kernel
theorem dX2_start_31 : decode cX2_start 31 = .ok (.ireturn, 1) := by decide +kernel
theorem dX2_start_32 : decode cX2_start 32 = .ok (.aload_n 0, 1) := by decide +kernel
theorem dX2_start_33 : decode cX2_start 33 = .ok (.getfield 32, 3) := by decide +kernel
theorem dX2_start_36 : decode cX2_start 36 = .ok (.iload_n 1, 1) := by decide +kernel
theorem dX2_start_37 : decode cX2_start 37 = .ok (.iload_n 2, 1) := by decide +kernel
theorem dX2_start_38 : decode cX2_start 38 = .ok (.iastore, 1) := by decide +kernel
theorem dX2_start_39 : decode cX2_start 39 = .ok (.aload_n 0, 1) := by decide +kernel
theorem dX2_start_40 : decode cX2_start 40 = .ok (.getfield 35, 3) := by decide +kernel
theorem dX2_start_43 : decode cX2_start 43 = .ok (.iload_n 1, 1) := by decide +kernel
theorem dX2_start_44 : decode cX2_start 44 = .ok (.iload_n 3, 1) := by decide +kernel
theorem dX2_start_45 : decode cX2_start 45 = .ok (.iastore, 1) := by decide +kernel
theorem dX2_start_46 : decode cX2_start 46 = .ok (.iconst 1, 1) := by decide +kernel
theorem dX2_start_47 : decode cX2_start 47 = .ok (.ireturn, 1) := by decide +kernel
theorem dX2_check_0 : decode cX2_check 0 = .ok (.aload_n 0, 1) := by decide +kernel
theorem dX2_check_1 : decode cX2_check 1 = .ok (.iconst 0, 1) := by decide +kernel
theorem dX2_check_2 : decode cX2_check 2 = .ok (.putfield 66, 3) := by decide +kernel
theorem dX2_check_5 : decode cX2_check 5 = .ok (.aload_n 0, 1) := by decide +kernel
theorem dX2_check_6 : decode cX2_check 6 = .ok (.getfield 72, 3) := by decide +kernel
theorem dX2_check_9 : decode cX2_check 9 = .ok (.bipush 20, 2) := by decide +kernel
theorem dX2_check_11 : decode cX2_check 11 = .ok (.if_icmp .eq 42, 3) := by decide +kernel
theorem dX2_check_14 : decode cX2_check 14 = .ok (.iload_n 1, 1) := by decide +kernel
theorem dX2_check_15 : decode cX2_check 15 = .ok (.ifCond .lt 38, 3) := by decide +kernel
theorem dX2_check_18 : decode cX2_check 18 = .ok (.iload_n 1, 1) := by decide +kernel
theorem dX2_check_19 : decode cX2_check 19 = .ok (.aload_n 0, 1) := by decide +kernel
theorem dX2_check_20 : decode cX2_check 20 = .ok (.getfield 7, 3) := by decide +kernel
theorem dX2_check_23 : decode cX2_check 23 = .ok (.if_icmp .gt 30, 3) := by decide +kernel
theorem dX2_check_26 : decode cX2_check 26 = .ok (.iload_n 2, 1) := by decide +kernel
theorem dX2_check_27 : decode cX2_check 27 = .ok (.ifCond .lt 26, 3) := by decide +kernel
theorem dX2_check_30 : decode cX2_check 30 = .ok (.iload_n 2, 1) := by decide +kernel
theorem dX2_check_31 : decode cX2_check 31 = .ok (.iconst 2, 1) := by decide +kernel
theorem dX2_check_32 : decode cX2_check 32 = .ok (.if_icmp .gt 21, 3) := by decide +kernel
theorem dX2_check_35 : decode cX2_check 35 = .ok (.iload_n 3, 1) := by decide +kernel
theorem dX2_check_36 : decode cX2_check 36 = .ok (.ifCond .lt 17, 3) := by decide +kernel
theorem dX2_check_39 : decode cX2_check 39 = .ok (.iload 4, 2) := by decide +kernel
theorem dX2_check_41 : decode cX2_check 41 = .ok (.iload_n 3, 1) := by decide +kernel
theorem dX2_check_42 : decode cX2_check 42 = .ok (.if_icmp .lt 11, 3) := by decide +kernel
theorem dX2_check_45 : decode cX2_check 45 = .ok (.iload 4, 2) := by decide +kernel
theorem dX2_check_47 : decode cX2_check 47 = .ok (.sipush 9999, 3) := by decide +kernel
theorem dX2_check_50 : decode cX2_check 50 = .ok (.if_icmp .le 5, 3) := by decide +kernel
theorem dX2_check_53 : decode cX2_check 53 = .ok (.iconst (-1), 1) := by decide +kernel
theorem dX2_check_54 : decode cX2_check 54 = .ok (.ireturn, 1) := by decide +kernel
theorem dX2_check_55 : decode cX2_check 55 = .ok (.aload_n 0, 1) := by decide +kernel
theorem dX2_check_56 : decode cX2_check 56 = .ok (.getfield 38, 3) := by decide +kernel
theorem dX2_check_59 : decode cX2_check 59 = .ok (.aload_n 0, 1) := by decide +kernel
theorem dX2_check_60 : decode cX2_check 60 = .ok (.getfield 72, 3) := by decide +kernel
theorem dX2_check_63 : decode cX2_check 63 = .ok (.iload_n 1, 1) := by decide +kernel
theorem dX2_check_64 : decode cX2_check 64 = .ok (.iastore, 1) := by decide +kernel
theorem dX2_check_65 : decode cX2_check 65 = .ok (.aload_n 0, 1) := by decide +kernel
theorem dX2_check_66 : decode cX2_check 66 = .ok (.getfield 41, 3) := by decide +kernel
theorem dX2_check_69 : decode cX2_check 69 = .ok (.aload_n 0, 1) := by decide +kernel
theorem dX2_check_70 : decode cX2_check 70 = .ok (.getfield 72, 3) := by decide +kernel
theorem dX2_check_73 : decode cX2_check 73 = .ok (.iload_n 2, 1) := by decide +kernel
theorem dX2_check_74 : decode cX2_check 74 = .ok (.iastore, 1) := by decide +kernel
theorem dX2_check_75 : decode cX2_check 75 = .ok (.aload_n 0, 1) := by decide +kernel
theorem dX2_check_76 : decode cX2_check 76 = .ok (.getfield 44, 3) := by decide +kernel
theorem dX2_check_79 : decode cX2_check 79 = .ok (.aload_n 0, 1) := by decide +kernel
theorem dX2_check_80 : decode cX2_check 80 = .ok (.getfield 72, 3) := by decide +kernel
theorem dX2_check_83 : decode cX2_check 83 = .ok (.iload_n 3, 1) := by decide +kernel
theorem dX2_check_84 : decode cX2_check 84 = .ok (.iastore, 1) := by decide +kernel
theorem dX2_check_85 : decode cX2_check 85 = .ok (.aload_n 0, 1) := by decide +kernel
theorem dX2_check_86 : decode cX2_check 86 = .ok (.getfield 47, 3) := by decide +kernel
theorem dX2_check_89 : decode cX2_check 89 = .ok (.aload_n 0, 1) := by decide +kernel
theorem dX2_check_90 : decode cX2_check 90 = .ok (.getfield 72, 3) := by decide +kernel
theorem dX2_check_93 : decode cX2_check 93 = .ok (.iload 4, 2) := by decide +kernel
theorem dX2_check_95 : decode cX2_check 95 = .ok (.iastore, 1) := by decide +kernel
theorem dX2_check_96 : decode cX2_check 96 = .ok (.aload_n 0, 1) := by decide +kernel
theorem dX2_check_97 : decode cX2_check 97 = .ok (.dup, 1) := by decide +kernel
theorem dX2_check_98 : decode cX2_check 98 = .ok (.getfield 72, 3) := by decide +kernel
theorem dX2_check_101 : decode cX2_check 101 = .ok (.iconst 1, 1) := by decide +kernel
theorem dX2_check_102 : decode cX2_check 102 = .ok (.iadd, 1) := by decide +kernel
theorem dX2_check_103 : decode cX2_check 103 = .ok (.putfield 72, 3) := by decide +kernel
theorem dX2_check_106 : decode cX2_check 106 = .ok (.aload_n 0, 1) := by decide +kernel
theorem dX2_check_107 : decode cX2_check 107 = .ok (.getfield 72, 3) := by decide +kernel
theorem dX2_check_110 : decode cX2_check 110 = .ok (.iconst 1, 1) := by decide +kernel
theorem dX2_check_111 : decode cX2_check 111 = .ok (.isub, 1) := by decide +kernel
theorem dX2_check_112 : decode cX2_check 112 = .ok (.ireturn, 1) := by decide +kernel
theorem dX2_uncheck_0 : decode cX2_uncheck 0 = .ok (.aload_n 0, 1) := by decide +kernel
theorem dX2_uncheck_1 : decode cX2_uncheck 1 = .ok (.iconst 0, 1) := by decide +kernel
theorem dX2_uncheck_2 : decode cX2_uncheck 2 = .ok (.putfield 66, 3) := by decide +kernel
theorem dX2_uncheck_5 : decode cX2_uncheck 5 = .ok (.aload_n 0, 1) := by decide +kernel
theorem dX2_uncheck_6 : decode cX2_uncheck 6 = .ok (.getfield 72, 3) := by decide +kernel
theorem dX2_uncheck_9 : decode cX2_uncheck 9 = .ok (.ifCond .ne 5, 3) := by decide +kernel
theorem dX2_uncheck_12 : decode cX2_uncheck 12 = .ok (.iconst (-1), 1) := by decide +kernel
theorem dX2_uncheck_13 : decode cX2_uncheck 13 = .ok (.ireturn, 1) := by decide +kernel
theorem dX2_uncheck_14 : decode cX2_uncheck 14 = .ok (.aload_n 0, 1) := by decide +kernel
theorem dX2_uncheck_15 : decode cX2_uncheck 15 = .ok (.dup, 1) := by decide +kernel
theorem dX2_uncheck_16 : decode cX2_uncheck 16 = .ok (.getfield 72, 3) := by decide +kernel
theorem dX2_uncheck_19 : decode cX2_uncheck 19 = .ok (.iconst 1, 1) := by decide +kernel
theorem dX2_uncheck_20 : decode cX2_uncheck 20 = .ok (.isub, 1) := by decide +kernel
theorem dX2_uncheck_21 : decode cX2_uncheck 21 = .ok (.putfield 72, 3) := by decide +kernel
theorem dX2_uncheck_24 : decode cX2_uncheck 24 = .ok (.aload_n 0, 1) := by decide +kernel
theorem dX2_uncheck_25 : decode cX2_uncheck 25 = .ok (.getfield 72, 3) := by decide +kernel
theorem dX2_uncheck_28 : decode cX2_uncheck 28 = .ok (.ireturn, 1) := by decide +kernel
theorem dX2_greater_0 : decode cX2_greater 0 = .ok (.iload_n 0, 1) := by decide +kernel
theorem dX2_greater_1 : decode cX2_greater 1 = .ok (.iload_n 1, 1) := by decide +kernel
theorem dX2_greater_2 : decode cX2_greater 2 = .ok (.if_icmp .le 7, 3) := by decide +kernel
theorem dX2_greater_5 : decode cX2_greater 5 = .ok (.iload_n 0, 1) := by decide +kernel
theorem dX2_greater_6 : decode cX2_greater 6 = .ok (.goto 4, 3) := by decide +kernel
theorem dX2_greater_9 : decode cX2_greater 9 = .ok (.iload_n 1, 1) := by decide +kernel
theorem dX2_greater_10 : decode cX2_greater 10 = .ok (.ireturn, 1) := by decide +kernel
theorem dX2_lesser_0 : decode cX2_lesser 0 = .ok (.iload_n 0, 1) := by decide +kernel
theorem dX2_lesser_1 : decode cX2_lesser 1 = .ok (.iload_n 1, 1) := by decide +kernel
theorem dX2_lesser_2 : decode cX2_lesser 2 = .ok (.if_icmp .ge 7, 3) := by decide +kernel
theorem dX2_lesser_5 : decode cX2_lesser 5 = .ok (.iload_n 0, 1) := by decide +kernel
theorem dX2_lesser_6 : decode cX2_lesser 6 = .ok (.goto 4, 3) := by decide +kernel
theorem dX2_lesser_9 : decode cX2_lesser 9 = .ok (.iload_n 1, 1) := by decide +kernel
theorem dX2_lesser_10 : decode cX2_lesser 10 = .ok (.ireturn, 1) := by decide +kernel
set_option maxRecDepth 20000 in
theorem ggX2_least_X2_greater : GoodIn wsX2_least wsX2_greater := goodIn_r _ [6] (by decide +kernel) (by decide +kernel)
set_option maxRecDepth 20000 in
theorem gX2_least_X2_greater : GoodIn wsX2_least (va_wsS RX2 82 yX2_greater wsX2_greater) := goodIn_app (goodIn_of _ (by decide +kernel)) ggX2_least_X2_greater
theorem dX2_least_0 : decode cX2_least 0 = .ok (.iload_n 2, 1) := by decide +kernel
theorem dX2_least_1 : decode cX2_least 1 = .ok (.ifCond .ge 7, 3) := by decide +kernel
theorem dX2_least_4 : decode cX2_least 4 = .ok (.iconst 0, 1) := by decide +kernel
theorem dX2_least_5 : decode cX2_least 5 = .ok (.goto 20, 3) := by decide +kernel
theorem dX2_least_8 : decode cX2_least 8 = .ok (.iconst 0, 1) := by decide +kernel
theorem dX2_least_9 : decode cX2_least 9 = .ok (.iload_n 2, 1) := by decide +kernel
theorem dX2_least_10 : decode cX2_least 10 = .ok (.aload_n 0, 1) := by decide +kernel
theorem dX2_least_11 : decode cX2_least 11 = .ok (.getfield 20, 3) := by decide +kernel
theorem dX2_least_14 : decode cX2_least 14 = .ok (.iload_n 1, 1) := by decide +kernel
theorem dX2_least_15 : decode cX2_least 15 = .ok (.iaload, 1) := by decide +kernel
theorem dX2_least_16 : decode cX2_least 16 = .ok (.isub, 1) := by decide +kernel
theorem dX2_least_17 : decode cX2_least 17 = .ok (.aload_n 0, 1) := by decide +kernel
theorem dX2_least_18 : decode cX2_least 18 = .ok (.getfield 79, 3) := by decide +kernel
theorem dX2_least_21 : decode cX2_least 21 = .ok (.isub, 1) := by decide +kernel
theorem dX2_least_22 : decode cX2_least 22 = .ok (.invokestatic 82, 3) := by decide +kernel
theorem dX2_least_25 : decode cX2_least 25 = .ok (.ireturn, 1) := by decide +kernel
theorem dX2_most_0 : decode cX2_most 0 = .ok (.iload_n 2, 1) := by decide +kernel
theorem dX2_most_1 : decode cX2_most 1 = .ok (.ifCond .ge 12, 3) := by decide +kernel
theorem dX2_most_4 : decode cX2_most 4 = .ok (.aload_n 0, 1) := by decide +kernel
theorem dX2_most_5 : decode cX2_most 5 = .ok (.getfield 23, 3) := by decide +kernel
theorem dX2_most_8 : decode cX2_most 8 = .ok (.iload_n 1, 1) := by decide +kernel
theorem dX2_most_9 : decode cX2_most 9 = .ok (.iaload, 1) := by decide +kernel
theorem dX2_most_10 : decode cX2_most 10 = .ok (.goto 16, 3) := by decide +kernel
theorem dX2_most_13 : decode cX2_most 13 = .ok (.iload_n 2, 1) := by decide +kernel
theorem dX2_most_14 : decode cX2_most 14 = .ok (.aload_n 0, 1) := by decide +kernel
theorem dX2_most_15 : decode cX2_most 15 = .ok (.getfield 17, 3) := by decide +kernel
theorem dX2_most_18 : decode cX2_most 18 = .ok (.iload_n 1, 1) := by decide +kernel
theorem dX2_most_19 : decode cX2_most 19 = .ok (.iaload, 1) := by decide +kernel
theorem dX2_most_20 : decode cX2_most 20 = .ok (.iadd, 1) := by decide +kernel
theorem dX2_most_21 : decode cX2_most 21 = .ok (.aload_n 0, 1) := by decide +kernel
theorem dX2_most_22 : decode cX2_most 22 = .ok (.getfield 79, 3) := by decide +kernel
theorem dX2_most_25 : decode cX2_most 25 = .ok (.iadd, 1) := by decide +kernel
theorem dX2_most_26 : decode cX2_most 26 = .ok (.ireturn, 1) := by decide +kernel
set_option maxRecDepth 20000 in
theorem ggX2_netLow_X2_least : GoodIn wsX2_netLow wsX2_least := goodIn_r _ [7, 8, 9, 10, 11, 6, 12, 19, 20, 21, 22, 23, 24, 25, 26, 27, 28, 29, 30, 31, 32, 33, 34, 35, 36, 37, 38, 39] (by decide +kernel) (by decide +kernel)
set_option maxRecDepth 20000 in
theorem gX2_netLow_X2_least : GoodIn wsX2_netLow (wsV RX2 86 RX2 yX2_least wsX2_least) := goodIn_app (goodIn_of _ (by decide +kernel)) ggX2_netLow_X2_least
set_option maxRecDepth 20000 in
theorem ggX2_netLow_X2_most : GoodIn wsX2_netLow wsX2_most := goodIn_r _ [16, 17, 18, 9, 19, 20, 21, 22, 23, 24, 25, 26, 27, 28, 29, 30, 31, 32, 33, 34, 35, 36, 37, 38, 39] (by decide +kernel) (by decide +kernel)
set_option maxRecDepth 20000 in
theorem gX2_netLow_X2_most : GoodIn wsX2_netLow (wsV RX2 89 RX2 yX2_most wsX2_most) := goodIn_app (goodIn_of _ (by decide +kernel)) ggX2_netLow_X2_most
theorem dX2_netLow_0 : decode cX2_netLow 0 = .ok (.aload_n 0, 1) := by decide +kernel
theorem dX2_netLow_1 : decode cX2_netLow 1 = .ok (.iload_n 1, 1) := by decide +kernel
theorem dX2_netLow_2 : decode cX2_netLow 2 = .ok (.aload_n 0, 1) := by decide +kernel
theorem dX2_netLow_3 : decode cX2_netLow 3 = .ok (.getfield 26, 3) := by decide +kernel
theorem dX2_netLow_6 : decode cX2_netLow 6 = .ok (.bipush 60, 2) := by decide +kernel
theorem dX2_netLow_8 : decode cX2_netLow 8 = .ok (.iload_n 1, 1) := by decide +kernel
theorem dX2_netLow_9 : decode cX2_netLow 9 = .ok (.imul, 1) := by decide +kernel
theorem dX2_netLow_10 : decode cX2_netLow 10 = .ok (.iload_n 2, 1) := by decide +kernel
theorem dX2_netLow_11 : decode cX2_netLow 11 = .ok (.iadd, 1) := by decide +kernel
theorem dX2_netLow_12 : decode cX2_netLow 12 = .ok (.iaload, 1) := by decide +kernel
theorem dX2_netLow_13 : decode cX2_netLow 13 = .ok (.invokevirtual 86, 3) := by decide +kernel
theorem dX2_netLow_16 : decode cX2_netLow 16 = .ok (.aload_n 0, 1) := by decide +kernel
theorem dX2_netLow_17 : decode cX2_netLow 17 = .ok (.iload_n 1, 1) := by decide +kernel
theorem dX2_netLow_18 : decode cX2_netLow 18 = .ok (.aload_n 0, 1) := by decide +kernel
theorem dX2_netLow_19 : decode cX2_netLow 19 = .ok (.getfield 29, 3) := by decide +kernel
theorem dX2_netLow_22 : decode cX2_netLow 22 = .ok (.bipush 60, 2) := by decide +kernel
theorem dX2_netLow_24 : decode cX2_netLow 24 = .ok (.iload_n 1, 1) := by decide +kernel
theorem dX2_netLow_25 : decode cX2_netLow 25 = .ok (.imul, 1) := by decide +kernel
theorem dX2_netLow_26 : decode cX2_netLow 26 = .ok (.iload_n 2, 1) := by decide +kernel
theorem dX2_netLow_27 : decode cX2_netLow 27 = .ok (.iadd, 1) := by decide +kernel
theorem dX2_netLow_28 : decode cX2_netLow 28 = .ok (.iaload, 1) := by decide +kernel
theorem dX2_netLow_29 : decode cX2_netLow 29 = .ok (.invokevirtual 89, 3) := by decide +kernel
theorem dX2_netLow_32 : decode cX2_netLow 32 = .ok (.isub, 1) := by decide +kernel
theorem dX2_netLow_33 : decode cX2_netLow 33 = .ok (.ireturn, 1) := by decide +kernel
set_option maxRecDepth 20000 in
theorem ggX2_netHigh_X2_most : GoodIn wsX2_netHigh wsX2_most := goodIn_r _ [7, 8, 9, 10, 19, 20, 21, 22, 23, 24, 25, 26, 27, 28, 29, 30, 31, 32, 33, 34, 35, 36, 37, 38, 39] (by decide +kernel) (by decide +kernel)
set_option maxRecDepth 20000 in
theorem gX2_netHigh_X2_most : GoodIn wsX2_netHigh (wsV RX2 89 RX2 yX2_most wsX2_most) := goodIn_app (goodIn_of _ (by decide +kernel)) ggX2_netHigh_X2_most
set_option maxRecDepth 20000 in
theorem ggX2_netHigh_X2_least : GoodIn wsX2_netHigh wsX2_least := goodIn_r _ [14, 15, 10, 16, 17, 6, 18, 19, 20, 21, 22, 23, 24, 25, 26, 27, 28, 29, 30, 31, 32, 33, 34, 35, 36, 37, 38, 39] (by decide +kernel) (by decide +kernel)
set_option maxRecDepth 20000 in
theorem gX2_netHigh_X2_least : GoodIn wsX2_netHigh (wsV RX2 86 RX2 yX2_least wsX2_least) := goodIn_app (goodIn_of _ (by decide +kernel)) ggX2_netHigh_X2_least
theorem dX2_netHigh_0 : decode cX2_netHigh 0 = .ok (.aload_n 0, 1) := by decide +kernel
theorem dX2_netHigh_1 : decode cX2_netHigh 1 = .ok (.iload_n 1, 1) := by decide +kernel
theorem dX2_netHigh_2 : decode cX2_netHigh 2 = .ok (.aload_n 0, 1) := by decide +kernel
theorem dX2_netHigh_3 : decode cX2_netHigh 3 = .ok (.getfield 26, 3) := by decide +kernel
theorem dX2_netHigh_6 : decode cX2_netHigh 6 = .ok (.bipush 60, 2) := by decide +kernel
theorem dX2_netHigh_8 : decode cX2_netHigh 8 = .ok (.iload_n 1, 1) := by decide +kernel
theorem dX2_netHigh_9 : decode cX2_netHigh 9 = .ok (.imul, 1) := by decide +kernel
theorem dX2_netHigh_10 : decode cX2_netHigh 10 = .ok (.iload_n 2, 1) := by decide +kernel
theorem dX2_netHigh_11 : decode cX2_netHigh 11 = .ok (.iadd, 1) := by decide +kernel
theorem dX2_netHigh_12 : decode cX2_netHigh 12 = .ok (.iaload, 1) := by decide +kernel
theorem dX2_netHigh_13 : decode cX2_netHigh 13 = .ok (.invokevirtual 89, 3) := by decide +kernel
theorem dX2_netHigh_16 : decode cX2_netHigh 16 = .ok (.aload_n 0, 1) := by decide +kernel
theorem dX2_netHigh_17 : decode cX2_netHigh 17 = .ok (.iload_n 1, 1) := by decide +kernel
theorem dX2_netHigh_18 : decode cX2_netHigh 18 = .ok (.aload_n 0, 1) := by decide +kernel
theorem dX2_netHigh_19 : decode cX2_netHigh 19 = .ok (.getfield 29, 3) := by decide +kernel
theorem dX2_netHigh_22 : decode cX2_netHigh 22 = .ok (.bipush 60, 2) := by decide +kernel
theorem dX2_netHigh_24 : decode cX2_netHigh 24 = .ok (.iload_n 1, 1) := by decide +kernel
theorem dX2_netHigh_25 : decode cX2_netHigh 25 = .ok (.imul, 1) := by decide +kernel
theorem dX2_netHigh_26 : decode cX2_netHigh 26 = .ok (.iload_n 2, 1) := by decide +kernel
theorem dX2_netHigh_27 : decode cX2_netHigh 27 = .ok (.iadd, 1) := by decide +kernel
theorem dX2_netHigh_28 : decode cX2_netHigh 28 = .ok (.iaload, 1) := by decide +kernel
theorem dX2_netHigh_29 : decode cX2_netHigh 29 = .ok (.invokevirtual 86, 3) := by decide +kernel
theorem dX2_netHigh_32 : decode cX2_netHigh 32 = .ok (.isub, 1) := by decide +kernel
theorem dX2_netHigh_33 : decode cX2_netHigh 33 = .ok (.ireturn, 1) := by decide +kernel
set_option maxRecDepth 20000 in
theorem ggX2_moves_X2_netLow : GoodIn wsX2_moves wsX2_netLow := goodIn_r _ [8, 9, 10, 11, 12, 13, 7, 14, 15, 16, 17, 18, 19, 20, 21, 22, 23, 24, 25, 30, 31, 32, 33, 34, 35, 36, 37, 38, 39, 40, 41, 42, 43, 44, 45, 46, 47, 48, 49, 50] (by decide +kernel) (by decide +kernel)
set_option maxRecDepth 20000 in
theorem gX2_moves_X2_netLow : GoodIn wsX2_moves (wsV RX2 92 RX2 yX2_netLow wsX2_netLow) := goodIn_app (goodIn_of _ (by decide +kernel)) ggX2_moves_X2_netLow
set_option maxRecDepth 20000 in
theorem ggX2_moves_X2_netHigh : GoodIn wsX2_moves wsX2_netHigh := goodIn_r _ [29, 9, 10, 20, 21, 22, 7, 23, 24, 25, 16, 11, 12, 13, 14, 15, 17, 18, 19, 30, 31, 32, 33, 34, 35, 36, 37, 38, 39, 40, 41, 42, 43, 44, 45, 46, 47, 48, 49, 50] (by decide +kernel) (by decide +kernel)
set_option maxRecDepth 20000 in
theorem gX2_moves_X2_netHigh : GoodIn wsX2_moves (wsV RX2 95 RX2 yX2_netHigh wsX2_netHigh) := goodIn_app (goodIn_of _ (by decide +kernel)) ggX2_moves_X2_netHigh
theorem dX2_moves_0 : decode cX2_moves 0 = .ok (.iconst 0, 1) := by decide +kernel
theorem dX2_moves_1 : decode cX2_moves 1 = .ok (.istore_n 3, 1) := by decide +kernel
theorem dX2_moves_2 : decode cX2_moves 2 = .ok (.iload_n 3, 1) := by decide +kernel
theorem dX2_moves_3 : decode cX2_moves 3 = .ok (.bipush 6, 2) := by decide +kernel
theorem dX2_moves_5 : decode cX2_moves 5 = .ok (.if_icmp .ge 16, 3) := by decide +kernel
theorem dX2_moves_8 : decode cX2_moves 8 = .ok (.aload_n 0, 1) := by decide +kernel
theorem dX2_moves_9 : decode cX2_moves 9 = .ok (.getfield 59, 3) := by decide +kernel
theorem dX2_moves_12 : decode cX2_moves 12 = .ok (.iload_n 3, 1) := by decide +kernel
theorem dX2_moves_13 : decode cX2_moves 13 = .ok (.iconst 0, 1) := by decide +kernel
theorem dX2_moves_14 : decode cX2_moves 14 = .ok (.iastore, 1) := by decide +kernel
theorem dX2_moves_15 : decode cX2_moves 15 = .ok (.iinc 3 1, 3) := by decide +kernel
theorem dX2_moves_18 : decode cX2_moves 18 = .ok (.goto (-16), 3) := by decide +kernel
theorem dX2_moves_21 : decode cX2_moves 21 = .ok (.iconst 0, 1) := by decide +kernel
theorem dX2_moves_22 : decode cX2_moves 22 = .ok (.istore_n 3, 1) := by decide +kernel
theorem dX2_moves_23 : decode cX2_moves 23 = .ok (.iload_n 3, 1) := by decide +kernel
theorem dX2_moves_24 : decode cX2_moves 24 = .ok (.aload_n 0, 1) := by decide +kernel
theorem dX2_moves_25 : decode cX2_moves 25 = .ok (.getfield 69, 3) := by decide +kernel
theorem dX2_moves_28 : decode cX2_moves 28 = .ok (.if_icmp .ge 63, 3) := by decide +kernel
theorem dX2_moves_31 : decode cX2_moves 31 = .ok (.iload_n 3, 1) := by decide +kernel
theorem dX2_moves_32 : decode cX2_moves 32 = .ok (.iload_n 2, 1) := by decide +kernel
theorem dX2_moves_33 : decode cX2_moves 33 = .ok (.if_icmp .ne 6, 3) := by decide +kernel
theorem dX2_moves_36 : decode cX2_moves 36 = .ok (.goto 49, 3) := by decide +kernel
theorem dX2_moves_39 : decode cX2_moves 39 = .ok (.aload_n 0, 1) := by decide +kernel
theorem dX2_moves_40 : decode cX2_moves 40 = .ok (.getfield 59, 3) := by decide +kernel
theorem dX2_moves_43 : decode cX2_moves 43 = .ok (.iconst 2, 1) := by decide +kernel
theorem dX2_moves_44 : decode cX2_moves 44 = .ok (.aload_n 0, 1) := by decide +kernel
theorem dX2_moves_45 : decode cX2_moves 45 = .ok (.getfield 13, 3) := by decide +kernel
theorem dX2_moves_48 : decode cX2_moves 48 = .ok (.iload_n 3, 1) := by decide +kernel
theorem dX2_moves_49 : decode cX2_moves 49 = .ok (.iaload, 1) := by decide +kernel
theorem dX2_moves_50 : decode cX2_moves 50 = .ok (.imul, 1) := by decide +kernel
theorem dX2_moves_51 : decode cX2_moves 51 = .ok (.dup2, 1) := by decide +kernel
theorem dX2_moves_52 : decode cX2_moves 52 = .ok (.iaload, 1) := by decide +kernel
theorem dX2_moves_53 : decode cX2_moves 53 = .ok (.aload_n 0, 1) := by decide +kernel
theorem dX2_moves_54 : decode cX2_moves 54 = .ok (.iload_n 3, 1) := by decide +kernel
theorem dX2_moves_55 : decode cX2_moves 55 = .ok (.iload_n 1, 1) := by decide +kernel
theorem dX2_moves_56 : decode cX2_moves 56 = .ok (.invokevirtual 92, 3) := by decide +kernel
theorem dX2_moves_59 : decode cX2_moves 59 = .ok (.iadd, 1) := by decide +kernel
theorem dX2_moves_60 : decode cX2_moves 60 = .ok (.iastore, 1) := by decide +kernel
theorem dX2_moves_61 : decode cX2_moves 61 = .ok (.aload_n 0, 1) := by decide +kernel
theorem dX2_moves_62 : decode cX2_moves 62 = .ok (.getfield 59, 3) := by decide +kernel
theorem dX2_moves_65 : decode cX2_moves 65 = .ok (.iconst 2, 1) := by decide +kernel
theorem dX2_moves_66 : decode cX2_moves 66 = .ok (.aload_n 0, 1) := by decide +kernel
theorem dX2_moves_67 : decode cX2_moves 67 = .ok (.getfield 13, 3) := by decide +kernel
theorem dX2_moves_70 : decode cX2_moves 70 = .ok (.iload_n 3, 1) := by decide +kernel
theorem dX2_moves_71 : decode cX2_moves 71 = .ok (.iaload, 1) := by decide +kernel
end
section
theorem dX2_moves_72 : decode cX2_moves 72 = .ok (.imul, 1) := by decide +kernel
theorem dX2_moves_73 : decode cX2_moves 73 = .ok (.iconst 1, 1) := by decide +kernel
theorem dX2_moves_74 : decode cX2_moves 74 = .ok (.iadd, 1) := by decide +kernel
theorem dX2_moves_75 : decode cX2_moves 75 = .ok (.dup2, 1) := by decide +kernel
theorem dX2_moves_76 : decode cX2_moves 76 = .ok (.iaload, 1) := by decide +kernel
theorem dX2_moves_77 : decode cX2_moves 77 = .ok (.aload_n 0, 1) := by decide +kernel
theorem dX2_moves_78 : decode cX2_moves 78 = .ok (.iload_n 3, 1) := by decide +kernel
theorem dX2_moves_79 : decode cX2_moves 79 = .ok (.iload_n 1, 1) := by decide +kernel
theorem dX2_moves_80 : decode cX2_moves 80 = .ok (.invokevirtual 95, 3) := by decide +kernel
theorem dX2_moves_83 : decode cX2_moves 83 = .ok (.iadd, 1) := by decide +kernel
theorem dX2_moves_84 : decode cX2_moves 84 = .ok (.iastore, 1) := by decide +kernel
theorem dX2_moves_85 : decode cX2_moves 85 = .ok (.iinc 3 1, 3) := by decide +kernel
theorem dX2_moves_88 : decode cX2_moves 88 = .ok (.goto (-65), 3) := by decide +kernel
theorem dX2_moves_91 : decode cX2_moves 91 = .ok (.return_, 1) := by decide +kernel
set_option maxRecDepth 20000 in
theorem ggX2_close_X2_greater : GoodIn wsX2_close wsX2_greater := goodIn_r _ [4] (by decide +kernel) (by decide +kernel)
set_option maxRecDepth 20000 in
theorem gX2_close_X2_greater : GoodIn wsX2_close (va_wsS RX2 82 yX2_greater wsX2_greater) := goodIn_app (goodIn_of _ (by decide +kernel)) ggX2_close_X2_greater
set_option maxRecDepth 20000 in
theorem ggX2_close_X2_lesser : GoodIn wsX2_close wsX2_lesser := goodIn_r _ [7] (by decide +kernel) (by decide +kernel)
set_option maxRecDepth 20000 in
theorem gX2_close_X2_lesser : GoodIn wsX2_close (va_wsS RX2 98 yX2_lesser wsX2_lesser) := goodIn_app (goodIn_of _ (by decide +kernel)) ggX2_close_X2_lesser
theorem dX2_close_0 : decode cX2_close 0 = .ok (.iconst 0, 1) := by decide +kernel
theorem dX2_close_1 : decode cX2_close 1 = .ok (.istore_n 3, 1) := by decide +kernel
theorem dX2_close_2 : decode cX2_close 2 = .ok (.iload_n 3, 1) := by decide +kernel
theorem dX2_close_3 : decode cX2_close 3 = .ok (.iconst 4, 1) := by decide +kernel
theorem dX2_close_4 : decode cX2_close 4 = .ok (.if_icmp .ge 145, 3) := by decide +kernel
theorem dX2_close_7 : decode cX2_close 7 = .ok (.aload_n 1, 1) := by decide +kernel
theorem dX2_close_8 : decode cX2_close 8 = .ok (.iload_n 2, 1) := by decide +kernel
theorem dX2_close_9 : decode cX2_close 9 = .ok (.aload_n 1, 1) := by decide +kernel
theorem dX2_close_10 : decode cX2_close 10 = .ok (.iload_n 2, 1) := by decide +kernel
theorem dX2_close_11 : decode cX2_close 11 = .ok (.iaload, 1) := by decide +kernel
theorem dX2_close_12 : decode cX2_close 12 = .ok (.aload_n 1, 1) := by decide +kernel
theorem dX2_close_13 : decode cX2_close 13 = .ok (.iload_n 2, 1) := by decide +kernel
theorem dX2_close_14 : decode cX2_close 14 = .ok (.iconst 4, 1) := by decide +kernel
theorem dX2_close_15 : decode cX2_close 15 = .ok (.iadd, 1) := by decide +kernel
theorem dX2_close_16 : decode cX2_close 16 = .ok (.iaload, 1) := by decide +kernel
theorem dX2_close_17 : decode cX2_close 17 = .ok (.aload_n 1, 1) := by decide +kernel
theorem dX2_close_18 : decode cX2_close 18 = .ok (.iload_n 2, 1) := by decide +kernel
theorem dX2_close_19 : decode cX2_close 19 = .ok (.iconst 3, 1) := by decide +kernel
theorem dX2_close_20 : decode cX2_close 20 = .ok (.iadd, 1) := by decide +kernel
theorem dX2_close_21 : decode cX2_close 21 = .ok (.iaload, 1) := by decide +kernel
theorem dX2_close_22 : decode cX2_close 22 = .ok (.isub, 1) := by decide +kernel
theorem dX2_close_23 : decode cX2_close 23 = .ok (.invokestatic 82, 3) := by decide +kernel
theorem dX2_close_26 : decode cX2_close 26 = .ok (.iastore, 1) := by decide +kernel
theorem dX2_close_27 : decode cX2_close 27 = .ok (.aload_n 1, 1) := by decide +kernel
theorem dX2_close_28 : decode cX2_close 28 = .ok (.iload_n 2, 1) := by decide +kernel
theorem dX2_close_29 : decode cX2_close 29 = .ok (.iconst 1, 1) := by decide +kernel
theorem dX2_close_30 : decode cX2_close 30 = .ok (.iadd, 1) := by decide +kernel
theorem dX2_close_31 : decode cX2_close 31 = .ok (.aload_n 1, 1) := by decide +kernel
theorem dX2_close_32 : decode cX2_close 32 = .ok (.iload_n 2, 1) := by decide +kernel
theorem dX2_close_33 : decode cX2_close 33 = .ok (.iconst 1, 1) := by decide +kernel
theorem dX2_close_34 : decode cX2_close 34 = .ok (.iadd, 1) := by decide +kernel
theorem dX2_close_35 : decode cX2_close 35 = .ok (.iaload, 1) := by decide +kernel
theorem dX2_close_36 : decode cX2_close 36 = .ok (.aload_n 1, 1) := by decide +kernel
theorem dX2_close_37 : decode cX2_close 37 = .ok (.iload_n 2, 1) := by decide +kernel
theorem dX2_close_38 : decode cX2_close 38 = .ok (.iconst 5, 1) := by decide +kernel
theorem dX2_close_39 : decode cX2_close 39 = .ok (.iadd, 1) := by decide +kernel
theorem dX2_close_40 : decode cX2_close 40 = .ok (.iaload, 1) := by decide +kernel
theorem dX2_close_41 : decode cX2_close 41 = .ok (.aload_n 1, 1) := by decide +kernel
theorem dX2_close_42 : decode cX2_close 42 = .ok (.iload_n 2, 1) := by decide +kernel
theorem dX2_close_43 : decode cX2_close 43 = .ok (.iconst 2, 1) := by decide +kernel
theorem dX2_close_44 : decode cX2_close 44 = .ok (.iadd, 1) := by decide +kernel
theorem dX2_close_45 : decode cX2_close 45 = .ok (.iaload, 1) := by decide +kernel
theorem dX2_close_46 : decode cX2_close 46 = .ok (.isub, 1) := by decide +kernel
theorem dX2_close_47 : decode cX2_close 47 = .ok (.invokestatic 98, 3) := by decide +kernel
theorem dX2_close_50 : decode cX2_close 50 = .ok (.iastore, 1) := by decide +kernel
theorem dX2_close_51 : decode cX2_close 51 = .ok (.aload_n 1, 1) := by decide +kernel
theorem dX2_close_52 : decode cX2_close 52 = .ok (.iload_n 2, 1) := by decide +kernel
theorem dX2_close_53 : decode cX2_close 53 = .ok (.iconst 2, 1) := by decide +kernel
theorem dX2_close_54 : decode cX2_close 54 = .ok (.iadd, 1) := by decide +kernel
theorem dX2_close_55 : decode cX2_close 55 = .ok (.aload_n 1, 1) := by decide +kernel
theorem dX2_close_56 : decode cX2_close 56 = .ok (.iload_n 2, 1) := by decide +kernel
theorem dX2_close_57 : decode cX2_close 57 = .ok (.iconst 2, 1) := by decide +kernel
theorem dX2_close_58 : decode cX2_close 58 = .ok (.iadd, 1) := by decide +kernel
theorem dX2_close_59 : decode cX2_close 59 = .ok (.iaload, 1) := by decide +kernel
theorem dX2_close_60 : decode cX2_close 60 = .ok (.aload_n 1, 1) := by decide +kernel
theorem dX2_close_61 : decode cX2_close 61 = .ok (.iload_n 2, 1) := by decide +kernel
theorem dX2_close_62 : decode cX2_close 62 = .ok (.iconst 4, 1) := by decide +kernel
theorem dX2_close_63 : decode cX2_close 63 = .ok (.iadd, 1) := by decide +kernel
theorem dX2_close_64 : decode cX2_close 64 = .ok (.iaload, 1) := by decide +kernel
theorem dX2_close_65 : decode cX2_close 65 = .ok (.aload_n 1, 1) := by decide +kernel
theorem dX2_close_66 : decode cX2_close 66 = .ok (.iload_n 2, 1) := by decide +kernel
theorem dX2_close_67 : decode cX2_close 67 = .ok (.iconst 1, 1) := by decide +kernel
theorem dX2_close_68 : decode cX2_close 68 = .ok (.iadd, 1) := by decide +kernel
theorem dX2_close_69 : decode cX2_close 69 = .ok (.iaload, 1) := by decide +kernel
theorem dX2_close_70 : decode cX2_close 70 = .ok (.isub, 1) := by decide +kernel
theorem dX2_close_71 : decode cX2_close 71 = .ok (.invokestatic 82, 3) := by decide +kernel
theorem dX2_close_74 : decode cX2_close 74 = .ok (.iastore, 1) := by decide +kernel
theorem dX2_close_75 : decode cX2_close 75 = .ok (.aload_n 1, 1) := by decide +kernel
theorem dX2_close_76 : decode cX2_close 76 = .ok (.iload_n 2, 1) := by decide +kernel
theorem dX2_close_77 : decode cX2_close 77 = .ok (.iconst 3, 1) := by decide +kernel
theorem dX2_close_78 : decode cX2_close 78 = .ok (.iadd, 1) := by decide +kernel
theorem dX2_close_79 : decode cX2_close 79 = .ok (.aload_n 1, 1) := by decide +kernel
theorem dX2_close_80 : decode cX2_close 80 = .ok (.iload_n 2, 1) := by decide +kernel
theorem dX2_close_81 : decode cX2_close 81 = .ok (.iconst 3, 1) := by decide +kernel
theorem dX2_close_82 : decode cX2_close 82 = .ok (.iadd, 1) := by decide +kernel
theorem dX2_close_83 : decode cX2_close 83 = .ok (.iaload, 1) := by decide +kernel
theorem dX2_close_84 : decode cX2_close 84 = .ok (.aload_n 1, 1) := by decide +kernel
theorem dX2_close_85 : decode cX2_close 85 = .ok (.iload_n 2, 1) := by decide +kernel
theorem dX2_close_86 : decode cX2_close 86 = .ok (.iconst 5, 1) := by decide +kernel
theorem dX2_close_87 : decode cX2_close 87 = .ok (.iadd, 1) := by decide +kernel
theorem dX2_close_88 : decode cX2_close 88 = .ok (.iaload, 1) := by decide +kernel
theorem dX2_close_89 : decode cX2_close 89 = .ok (.aload_n 1, 1) := by decide +kernel
theorem dX2_close_90 : decode cX2_close 90 = .ok (.iload_n 2, 1) := by decide +kernel
theorem dX2_close_91 : decode cX2_close 91 = .ok (.iaload, 1) := by decide +kernel
theorem dX2_close_92 : decode cX2_close 92 = .ok (.isub, 1) := by decide +kernel
theorem dX2_close_93 : decode cX2_close 93 = .ok (.invokestatic 98, 3) := by decide +kernel
theorem dX2_close_96 : decode cX2_close 96 = .ok (.iastore, 1) := by decide +kernel
theorem dX2_close_97 : decode cX2_close 97 = .ok (.aload_n 1, 1) := by decide +kernel
theorem dX2_close_98 : decode cX2_close 98 = .ok (.iload_n 2, 1) := by decide +kernel
theorem dX2_close_99 : decode cX2_close 99 = .ok (.iconst 4, 1) := by decide +kernel
theorem dX2_close_100 : decode cX2_close 100 = .ok (.iadd, 1) := by decide +kernel
theorem dX2_close_101 : decode cX2_close 101 = .ok (.aload_n 1, 1) := by decide +kernel
theorem dX2_close_102 : decode cX2_close 102 = .ok (.iload_n 2, 1) := by decide +kernel
theorem dX2_close_103 : decode cX2_close 103 = .ok (.iconst 4, 1) := by decide +kernel
theorem dX2_close_104 : decode cX2_close 104 = .ok (.iadd, 1) := by decide +kernel
theorem dX2_close_105 : decode cX2_close 105 = .ok (.iaload, 1) := by decide +kernel
theorem dX2_close_106 : decode cX2_close 106 = .ok (.aload_n 1, 1) := by decide +kernel
theorem dX2_close_107 : decode cX2_close 107 = .ok (.iload_n 2, 1) := by decide +kernel
theorem dX2_close_108 : decode cX2_close 108 = .ok (.iaload, 1) := by decide +kernel
theorem dX2_close_109 : decode cX2_close 109 = .ok (.aload_n 1, 1) := by decide +kernel
theorem dX2_close_110 : decode cX2_close 110 = .ok (.iload_n 2, 1) := by decide +kernel
theorem dX2_close_111 : decode cX2_close 111 = .ok (.iconst 2, 1) := by decide +kernel
theorem dX2_close_112 : decode cX2_close 112 = .ok (.iadd, 1) := by decide +kernel
theorem dX2_close_113 : decode cX2_close 113 = .ok (.iaload, 1) := by decide +kernel
theorem dX2_close_114 : decode cX2_close 114 = .ok (.iadd, 1) := by decide +kernel
theorem dX2_close_115 : decode cX2_close 115 = .ok (.invokestatic 82, 3) := by decide +kernel
theorem dX2_close_118 : decode cX2_close 118 = .ok (.iastore, 1) := by decide +kernel
theorem dX2_close_119 : decode cX2_close 119 = .ok (.aload_n 1, 1) := by decide +kernel
theorem dX2_close_120 : decode cX2_close 120 = .ok (.iload_n 2, 1) := by decide +kernel
theorem dX2_close_121 : decode cX2_close 121 = .ok (.iconst 5, 1) := by decide +kernel
theorem dX2_close_122 : decode cX2_close 122 = .ok (.iadd, 1) := by decide +kernel
theorem dX2_close_123 : decode cX2_close 123 = .ok (.aload_n 1, 1) := by decide +kernel
theorem dX2_close_124 : decode cX2_close 124 = .ok (.iload_n 2, 1) := by decide +kernel
theorem dX2_close_125 : decode cX2_close 125 = .ok (.iconst 5, 1) := by decide +kernel
theorem dX2_close_126 : decode cX2_close 126 = .ok (.iadd, 1) := by decide +kernel
theorem dX2_close_127 : decode cX2_close 127 = .ok (.iaload, 1) := by decide +kernel
theorem dX2_close_128 : decode cX2_close 128 = .ok (.aload_n 1, 1) := by decide +kernel
theorem dX2_close_129 : decode cX2_close 129 = .ok (.iload_n 2, 1) := by decide +kernel
theorem dX2_close_130 : decode cX2_close 130 = .ok (.iconst 1, 1) := by decide +kernel
theorem dX2_close_131 : decode cX2_close 131 = .ok (.iadd, 1) := by decide +kernel
theorem dX2_close_132 : decode cX2_close 132 = .ok (.iaload, 1) := by decide +kernel
theorem dX2_close_133 : decode cX2_close 133 = .ok (.aload_n 1, 1) := by decide +kernel
theorem dX2_close_134 : decode cX2_close 134 = .ok (.iload_n 2, 1) := by decide +kernel
theorem dX2_close_135 : decode cX2_close 135 = .ok (.iconst 3, 1) := by decide +kernel
theorem dX2_close_136 : decode cX2_close 136 = .ok (.iadd, 1) := by decide +kernel
theorem dX2_close_137 : decode cX2_close 137 = .ok (.iaload, 1) := by decide +kernel
theorem dX2_close_138 : decode cX2_close 138 = .ok (.iadd, 1) := by decide +kernel
theorem dX2_close_139 : decode cX2_close 139 = .ok (.invokestatic 98, 3) := by decide +kernel
theorem dX2_close_142 : decode cX2_close 142 = .ok (.iastore, 1) := by decide +kernel
theorem dX2_close_143 : decode cX2_close 143 = .ok (.iinc 3 1, 3) := by decide +kernel
theorem dX2_close_146 : decode cX2_close 146 = .ok (.goto (-144), 3) := by decide +kernel
theorem dX2_close_149 : decode cX2_close 149 = .ok (.aload_n 1, 1) := by decide +kernel
theorem dX2_close_150 : decode cX2_close 150 = .ok (.iload_n 2, 1) := by decide +kernel
theorem dX2_close_151 : decode cX2_close 151 = .ok (.iaload, 1) := by decide +kernel
theorem dX2_close_152 : decode cX2_close 152 = .ok (.aload_n 1, 1) := by decide +kernel
theorem dX2_close_153 : decode cX2_close 153 = .ok (.iload_n 2, 1) := by decide +kernel
theorem dX2_close_154 : decode cX2_close 154 = .ok (.iconst 1, 1) := by decide +kernel
theorem dX2_close_155 : decode cX2_close 155 = .ok (.iadd, 1) := by decide +kernel
theorem dX2_close_156 : decode cX2_close 156 = .ok (.iaload, 1) := by decide +kernel
theorem dX2_close_157 : decode cX2_close 157 = .ok (.if_icmp .gt 33, 3) := by decide +kernel
theorem dX2_close_160 : decode cX2_close 160 = .ok (.aload_n 1, 1) := by decide +kernel
theorem dX2_close_161 : decode cX2_close 161 = .ok (.iload_n 2, 1) := by decide +kernel
theorem dX2_close_162 : decode cX2_close 162 = .ok (.iconst 2, 1) := by decide +kernel
theorem dX2_close_163 : decode cX2_close 163 = .ok (.iadd, 1) := by decide +kernel
theorem dX2_close_164 : decode cX2_close 164 = .ok (.iaload, 1) := by decide +kernel
theorem dX2_close_165 : decode cX2_close 165 = .ok (.aload_n 1, 1) := by decide +kernel
theorem dX2_close_166 : decode cX2_close 166 = .ok (.iload_n 2, 1) := by decide +kernel
theorem dX2_close_167 : decode cX2_close 167 = .ok (.iconst 3, 1) := by decide +kernel
theorem dX2_close_168 : decode cX2_close 168 = .ok (.iadd, 1) := by decide +kernel
theorem dX2_close_169 : decode cX2_close 169 = .ok (.iaload, 1) := by decide +kernel
theorem dX2_close_170 : decode cX2_close 170 = .ok (.if_icmp .gt 20, 3) := by decide +kernel
theorem dX2_close_173 : decode cX2_close 173 = .ok (.aload_n 1, 1) := by decide +kernel
theorem dX2_close_174 : decode cX2_close 174 = .ok (.iload_n 2, 1) := by decide +kernel
theorem dX2_close_175 : decode cX2_close 175 = .ok (.iconst 4, 1) := by decide +kernel
theorem dX2_close_176 : decode cX2_close 176 = .ok (.iadd, 1) := by decide +kernel
theorem dX2_close_177 : decode cX2_close 177 = .ok (.iaload, 1) := by decide +kernel
theorem dX2_close_178 : decode cX2_close 178 = .ok (.aload_n 1, 1) := by decide +kernel
theorem dX2_close_179 : decode cX2_close 179 = .ok (.iload_n 2, 1) := by decide +kernel
theorem dX2_close_180 : decode cX2_close 180 = .ok (.iconst 5, 1) := by decide +kernel
theorem dX2_close_181 : decode cX2_close 181 = .ok (.iadd, 1) := by decide +kernel
theorem dX2_close_182 : decode cX2_close 182 = .ok (.iaload, 1) := by decide +kernel
theorem dX2_close_183 : decode cX2_close 183 = .ok (.if_icmp .gt 7, 3) := by decide +kernel
theorem dX2_close_186 : decode cX2_close 186 = .ok (.iconst 1, 1) := by decide +kernel
theorem dX2_close_187 : decode cX2_close 187 = .ok (.goto 4, 3) := by decide +kernel
theorem dX2_close_190 : decode cX2_close 190 = .ok (.iconst 0, 1) := by decide +kernel
theorem dX2_close_191 : decode cX2_close 191 = .ok (.ireturn, 1) := by decide +kernel
set_option maxRecDepth 20000 in
theorem ggX2_holds_X2_greater : GoodIn wsX2_holds wsX2_greater := goodIn_r _ [9] (by decide +kernel) (by decide +kernel)
set_option maxRecDepth 20000 in
theorem gX2_holds_X2_greater : GoodIn wsX2_holds (va_wsS RX2 82 yX2_greater wsX2_greater) := goodIn_app (goodIn_of _ (by decide +kernel)) ggX2_holds_X2_greater
set_option maxRecDepth 20000 in
theorem ggX2_holds_X2_lesser : GoodIn wsX2_holds wsX2_lesser := goodIn_r _ [12] (by decide +kernel) (by decide +kernel)
set_option maxRecDepth 20000 in
theorem gX2_holds_X2_lesser : GoodIn wsX2_holds (va_wsS RX2 98 yX2_lesser wsX2_lesser) := goodIn_app (goodIn_of _ (by decide +kernel)) ggX2_holds_X2_lesser
set_option maxRecDepth 20000 in
theorem ggX2_holds_X2_close : GoodIn wsX2_holds wsX2_close := goodIn_r _ [16, 6, 7, 8, 9, 10, 11, 12] (by decide +kernel) (by decide +kernel)
set_option maxRecDepth 20000 in
theorem gX2_holds_X2_close : GoodIn wsX2_holds (wsV RX2 101 RX2 yX2_close wsX2_close) := goodIn_app (goodIn_of _ (by decide +kernel)) ggX2_holds_X2_close
theorem dX2_holds_0 : decode cX2_holds 0 = .ok (.bipush 6, 2) := by decide +kernel
theorem dX2_holds_2 : decode cX2_holds 2 = .ok (.iload_n 2, 1) := by decide +kernel
theorem dX2_holds_3 : decode cX2_holds 3 = .ok (.imul, 1) := by decide +kernel
theorem dX2_holds_4 : decode cX2_holds 4 = .ok (.istore_n 3, 1) := by decide +kernel
theorem dX2_holds_5 : decode cX2_holds 5 = .ok (.aload_n 1, 1) := by decide +kernel
theorem dX2_holds_6 : decode cX2_holds 6 = .ok (.iload_n 3, 1) := by decide +kernel
theorem dX2_holds_7 : decode cX2_holds 7 = .ok (.aload_n 1, 1) := by decide +kernel
theorem dX2_holds_8 : decode cX2_holds 8 = .ok (.iload_n 3, 1) := by decide +kernel
theorem dX2_holds_9 : decode cX2_holds 9 = .ok (.iaload, 1) := by decide +kernel
theorem dX2_holds_10 : decode cX2_holds 10 = .ok (.iconst 0, 1) := by decide +kernel
theorem dX2_holds_11 : decode cX2_holds 11 = .ok (.invokestatic 82, 3) := by decide +kernel
theorem dX2_holds_14 : decode cX2_holds 14 = .ok (.iastore, 1) := by decide +kernel
theorem dX2_holds_15 : decode cX2_holds 15 = .ok (.aload_n 1, 1) := by decide +kernel
theorem dX2_holds_16 : decode cX2_holds 16 = .ok (.iload_n 3, 1) := by decide +kernel
theorem dX2_holds_17 : decode cX2_holds 17 = .ok (.iconst 2, 1) := by decide +kernel
theorem dX2_holds_18 : decode cX2_holds 18 = .ok (.iadd, 1) := by decide +kernel
theorem dX2_holds_19 : decode cX2_holds 19 = .ok (.aload_n 1, 1) := by decide +kernel
theorem dX2_holds_20 : decode cX2_holds 20 = .ok (.iload_n 3, 1) := by decide +kernel
theorem dX2_holds_21 : decode cX2_holds 21 = .ok (.iconst 2, 1) := by decide +kernel
theorem dX2_holds_22 : decode cX2_holds 22 = .ok (.iadd, 1) := by decide +kernel
theorem dX2_holds_23 : decode cX2_holds 23 = .ok (.iaload, 1) := by decide +kernel
theorem dX2_holds_24 : decode cX2_holds 24 = .ok (.iconst 0, 1) := by decide +kernel
theorem dX2_holds_25 : decode cX2_holds 25 = .ok (.invokestatic 82, 3) := by decide +kernel
theorem dX2_holds_28 : decode cX2_holds 28 = .ok (.iastore, 1) := by decide +kernel
theorem dX2_holds_29 : decode cX2_holds 29 = .ok (.iconst 0, 1) := by decide +kernel
theorem dX2_holds_30 : decode cX2_holds 30 = .ok (.istore 4, 2) := by decide +kernel
theorem dX2_holds_32 : decode cX2_holds 32 = .ok (.iload 4, 2) := by decide +kernel
theorem dX2_holds_34 : decode cX2_holds 34 = .ok (.aload_n 0, 1) := by decide +kernel
theorem dX2_holds_35 : decode cX2_holds 35 = .ok (.getfield 72, 3) := by decide +kernel
theorem dX2_holds_38 : decode cX2_holds 38 = .ok (.if_icmp .ge 99, 3) := by decide +kernel
theorem dX2_holds_41 : decode cX2_holds 41 = .ok (.aload_n 0, 1) := by decide +kernel
theorem dX2_holds_42 : decode cX2_holds 42 = .ok (.getfield 38, 3) := by decide +kernel
theorem dX2_holds_45 : decode cX2_holds 45 = .ok (.iload 4, 2) := by decide +kernel
theorem dX2_holds_47 : decode cX2_holds 47 = .ok (.iaload, 1) := by decide +kernel
theorem dX2_holds_48 : decode cX2_holds 48 = .ok (.iload_n 2, 1) := by decide +kernel
theorem dX2_holds_49 : decode cX2_holds 49 = .ok (.if_icmp .eq 6, 3) := by decide +kernel
theorem dX2_holds_52 : decode cX2_holds 52 = .ok (.goto 79, 3) := by decide +kernel
theorem dX2_holds_55 : decode cX2_holds 55 = .ok (.aload_n 1, 1) := by decide +kernel
theorem dX2_holds_56 : decode cX2_holds 56 = .ok (.iload_n 3, 1) := by decide +kernel
theorem dX2_holds_57 : decode cX2_holds 57 = .ok (.iconst 2, 1) := by decide +kernel
theorem dX2_holds_58 : decode cX2_holds 58 = .ok (.aload_n 0, 1) := by decide +kernel
theorem dX2_holds_59 : decode cX2_holds 59 = .ok (.getfield 41, 3) := by decide +kernel
theorem dX2_holds_62 : decode cX2_holds 62 = .ok (.iload 4, 2) := by decide +kernel
theorem dX2_holds_64 : decode cX2_holds 64 = .ok (.iaload, 1) := by decide +kernel
theorem dX2_holds_65 : decode cX2_holds 65 = .ok (.imul, 1) := by decide +kernel
theorem dX2_holds_66 : decode cX2_holds 66 = .ok (.iadd, 1) := by decide +kernel
theorem dX2_holds_67 : decode cX2_holds 67 = .ok (.aload_n 1, 1) := by decide +kernel
theorem dX2_holds_68 : decode cX2_holds 68 = .ok (.iload_n 3, 1) := by decide +kernel
theorem dX2_holds_69 : decode cX2_holds 69 = .ok (.iconst 2, 1) := by decide +kernel
theorem dX2_holds_70 : decode cX2_holds 70 = .ok (.aload_n 0, 1) := by decide +kernel
theorem dX2_holds_71 : decode cX2_holds 71 = .ok (.getfield 41, 3) := by decide +kernel
theorem dX2_holds_74 : decode cX2_holds 74 = .ok (.iload 4, 2) := by decide +kernel
theorem dX2_holds_76 : decode cX2_holds 76 = .ok (.iaload, 1) := by decide +kernel
theorem dX2_holds_77 : decode cX2_holds 77 = .ok (.imul, 1) := by decide +kernel
theorem dX2_holds_78 : decode cX2_holds 78 = .ok (.iadd, 1) := by decide +kernel
theorem dX2_holds_79 : decode cX2_holds 79 = .ok (.iaload, 1) := by decide +kernel
theorem dX2_holds_80 : decode cX2_holds 80 = .ok (.aload_n 0, 1) := by decide +kernel
theorem dX2_holds_81 : decode cX2_holds 81 = .ok (.getfield 44, 3) := by decide +kernel
theorem dX2_holds_84 : decode cX2_holds 84 = .ok (.iload 4, 2) := by decide +kernel
theorem dX2_holds_86 : decode cX2_holds 86 = .ok (.iaload, 1) := by decide +kernel
theorem dX2_holds_87 : decode cX2_holds 87 = .ok (.invokestatic 82, 3) := by decide +kernel
theorem dX2_holds_90 : decode cX2_holds 90 = .ok (.iastore, 1) := by decide +kernel
theorem dX2_holds_91 : decode cX2_holds 91 = .ok (.aload_n 1, 1) := by decide +kernel
theorem dX2_holds_92 : decode cX2_holds 92 = .ok (.iload_n 3, 1) := by decide +kernel
theorem dX2_holds_93 : decode cX2_holds 93 = .ok (.iconst 2, 1) := by decide +kernel
theorem dX2_holds_94 : decode cX2_holds 94 = .ok (.aload_n 0, 1) := by decide +kernel
theorem dX2_holds_95 : decode cX2_holds 95 = .ok (.getfield 41, 3) := by decide +kernel
theorem dX2_holds_98 : decode cX2_holds 98 = .ok (.iload 4, 2) := by decide +kernel
theorem dX2_holds_100 : decode cX2_holds 100 = .ok (.iaload, 1) := by decide +kernel
theorem dX2_holds_101 : decode cX2_holds 101 = .ok (.imul, 1) := by decide +kernel
theorem dX2_holds_102 : decode cX2_holds 102 = .ok (.iadd, 1) := by decide +kernel
theorem dX2_holds_103 : decode cX2_holds 103 = .ok (.iconst 1, 1) := by decide +kernel
theorem dX2_holds_104 : decode cX2_holds 104 = .ok (.iadd, 1) := by decide +kernel
theorem dX2_holds_105 : decode cX2_holds 105 = .ok (.aload_n 1, 1) := by decide +kernel
theorem dX2_holds_106 : decode cX2_holds 106 = .ok (.iload_n 3, 1) := by decide +kernel
theorem dX2_holds_107 : decode cX2_holds 107 = .ok (.iconst 2, 1) := by decide +kernel
theorem dX2_holds_108 : decode cX2_holds 108 = .ok (.aload_n 0, 1) := by decide +kernel
theorem dX2_holds_109 : decode cX2_holds 109 = .ok (.getfield 41, 3) := by decide +kernel
theorem dX2_holds_112 : decode cX2_holds 112 = .ok (.iload 4, 2) := by decide +kernel
theorem dX2_holds_114 : decode cX2_holds 114 = .ok (.iaload, 1) := by decide +kernel
theorem dX2_holds_115 : decode cX2_holds 115 = .ok (.imul, 1) := by decide +kernel
theorem dX2_holds_116 : decode cX2_holds 116 = .ok (.iadd, 1) := by decide +kernel
theorem dX2_holds_117 : decode cX2_holds 117 = .ok (.iconst 1, 1) := by decide +kernel
theorem dX2_holds_118 : decode cX2_holds 118 = .ok (.iadd, 1) := by decide +kernel
theorem dX2_holds_119 : decode cX2_holds 119 = .ok (.iaload, 1) := by decide +kernel
theorem dX2_holds_120 : decode cX2_holds 120 = .ok (.aload_n 0, 1) := by decide +kernel
theorem dX2_holds_121 : decode cX2_holds 121 = .ok (.getfield 47, 3) := by decide +kernel
theorem dX2_holds_124 : decode cX2_holds 124 = .ok (.iload 4, 2) := by decide +kernel
theorem dX2_holds_126 : decode cX2_holds 126 = .ok (.iaload, 1) := by decide +kernel
theorem dX2_holds_127 : decode cX2_holds 127 = .ok (.invokestatic 98, 3) := by decide +kernel
theorem dX2_holds_130 : decode cX2_holds 130 = .ok (.iastore, 1) := by decide +kernel
theorem dX2_holds_131 : decode cX2_holds 131 = .ok (.iinc 4 1, 3) := by decide +kernel
theorem dX2_holds_134 : decode cX2_holds 134 = .ok (.goto (-102), 3) := by decide +kernel
theorem dX2_holds_137 : decode cX2_holds 137 = .ok (.aload_n 0, 1) := by decide +kernel
theorem dX2_holds_138 : decode cX2_holds 138 = .ok (.aload_n 1, 1) := by decide +kernel
theorem dX2_holds_139 : decode cX2_holds 139 = .ok (.iload_n 3, 1) := by decide +kernel
theorem dX2_holds_140 : decode cX2_holds 140 = .ok (.invokevirtual 101, 3) := by decide +kernel
theorem dX2_holds_143 : decode cX2_holds 143 = .ok (.ireturn, 1) := by decide +kernel
set_option maxRecDepth 20000 in
theorem ggX2_forward_X2_holds : GoodIn wsX2_forward wsX2_holds := goodIn_r _ [10, 11, 12, 13, 14, 15, 16, 17, 9, 18, 19, 20, 21, 22, 23, 24, 25, 54, 55, 56, 57, 58, 59, 60, 61, 62, 63, 64, 65, 66, 67, 68, 69, 70, 71, 72, 73, 74] (by decide +kernel) (by decide +kernel)
set_option maxRecDepth 20000 in
theorem gX2_forward_X2_holds : GoodIn wsX2_forward (wsV RX2 105 RX2 yX2_holds wsX2_holds) := goodIn_app (goodIn_of _ (by decide +kernel)) ggX2_forward_X2_holds
set_option maxRecDepth 20000 in
theorem ggX2_forward_X2_moves : GoodIn wsX2_forward wsX2_moves := goodIn_r _ [29, 5, 30, 31, 32, 33, 34, 9, 35, 36, 37, 38, 39, 40, 41, 42, 43, 16, 17, 18, 44, 45, 46, 47, 48, 49, 50, 51, 52, 53, 54, 55, 56, 57, 58, 59, 60, 61, 62, 63, 64, 65, 66, 67, 68, 69, 70, 71, 72, 73, 74] (by decide +kernel) (by decide +kernel)
set_option maxRecDepth 20000 in
theorem gX2_forward_X2_moves : GoodIn wsX2_forward (wsV RX2 108 RX2 yX2_moves wsX2_moves) := goodIn_app (goodIn_of _ (by decide +kernel)) ggX2_forward_X2_moves
theorem dX2_forward_0 : decode cX2_forward 0 = .ok (.aload_n 0, 1) := by decide +kernel
theorem dX2_forward_1 : decode cX2_forward 1 = .ok (.getfield 50, 3) := by decide +kernel
theorem dX2_forward_4 : decode cX2_forward 4 = .ok (.iconst 0, 1) := by decide +kernel
theorem dX2_forward_5 : decode cX2_forward 5 = .ok (.aload_n 0, 1) := by decide +kernel
theorem dX2_forward_6 : decode cX2_forward 6 = .ok (.getfield 32, 3) := by decide +kernel
theorem dX2_forward_9 : decode cX2_forward 9 = .ok (.iconst 0, 1) := by decide +kernel
theorem dX2_forward_10 : decode cX2_forward 10 = .ok (.iaload, 1) := by decide +kernel
theorem dX2_forward_11 : decode cX2_forward 11 = .ok (.iastore, 1) := by decide +kernel
theorem dX2_forward_12 : decode cX2_forward 12 = .ok (.aload_n 0, 1) := by decide +kernel
theorem dX2_forward_13 : decode cX2_forward 13 = .ok (.getfield 50, 3) := by decide +kernel
theorem dX2_forward_16 : decode cX2_forward 16 = .ok (.iconst 1, 1) := by decide +kernel
theorem dX2_forward_17 : decode cX2_forward 17 = .ok (.aload_n 0, 1) := by decide +kernel
theorem dX2_forward_18 : decode cX2_forward 18 = .ok (.getfield 35, 3) := by decide +kernel
theorem dX2_forward_21 : decode cX2_forward 21 = .ok (.iconst 0, 1) := by decide +kernel
theorem dX2_forward_22 : decode cX2_forward 22 = .ok (.iaload, 1) := by decide +kernel
theorem dX2_forward_23 : decode cX2_forward 23 = .ok (.iastore, 1) := by decide +kernel
theorem dX2_forward_24 : decode cX2_forward 24 = .ok (.aload_n 0, 1) := by decide +kernel
theorem dX2_forward_25 : decode cX2_forward 25 = .ok (.getfield 50, 3) := by decide +kernel
theorem dX2_forward_28 : decode cX2_forward 28 = .ok (.iconst 2, 1) := by decide +kernel
theorem dX2_forward_29 : decode cX2_forward 29 = .ok (.aload_n 0, 1) := by decide +kernel
theorem dX2_forward_30 : decode cX2_forward 30 = .ok (.getfield 32, 3) := by decide +kernel
theorem dX2_forward_33 : decode cX2_forward 33 = .ok (.iconst 1, 1) := by decide +kernel
theorem dX2_forward_34 : decode cX2_forward 34 = .ok (.iaload, 1) := by decide +kernel
theorem dX2_forward_35 : decode cX2_forward 35 = .ok (.iastore, 1) := by decide +kernel
theorem dX2_forward_36 : decode cX2_forward 36 = .ok (.aload_n 0, 1) := by decide +kernel
theorem dX2_forward_37 : decode cX2_forward 37 = .ok (.getfield 50, 3) := by decide +kernel
theorem dX2_forward_40 : decode cX2_forward 40 = .ok (.iconst 3, 1) := by decide +kernel
theorem dX2_forward_41 : decode cX2_forward 41 = .ok (.aload_n 0, 1) := by decide +kernel
theorem dX2_forward_42 : decode cX2_forward 42 = .ok (.getfield 35, 3) := by decide +kernel
theorem dX2_forward_45 : decode cX2_forward 45 = .ok (.iconst 1, 1) := by decide +kernel
theorem dX2_forward_46 : decode cX2_forward 46 = .ok (.iaload, 1) := by decide +kernel
theorem dX2_forward_47 : decode cX2_forward 47 = .ok (.iastore, 1) := by decide +kernel
theorem dX2_forward_48 : decode cX2_forward 48 = .ok (.aload_n 0, 1) := by decide +kernel
theorem dX2_forward_49 : decode cX2_forward 49 = .ok (.getfield 50, 3) := by decide +kernel
theorem dX2_forward_52 : decode cX2_forward 52 = .ok (.iconst 4, 1) := by decide +kernel
theorem dX2_forward_53 : decode cX2_forward 53 = .ok (.aload_n 0, 1) := by decide +kernel
theorem dX2_forward_54 : decode cX2_forward 54 = .ok (.getfield 32, 3) := by decide +kernel
theorem dX2_forward_57 : decode cX2_forward 57 = .ok (.iconst 0, 1) := by decide +kernel
theorem dX2_forward_58 : decode cX2_forward 58 = .ok (.iaload, 1) := by decide +kernel
theorem dX2_forward_59 : decode cX2_forward 59 = .ok (.aload_n 0, 1) := by decide +kernel
theorem dX2_forward_60 : decode cX2_forward 60 = .ok (.getfield 32, 3) := by decide +kernel
theorem dX2_forward_63 : decode cX2_forward 63 = .ok (.iconst 1, 1) := by decide +kernel
theorem dX2_forward_64 : decode cX2_forward 64 = .ok (.iaload, 1) := by decide +kernel
theorem dX2_forward_65 : decode cX2_forward 65 = .ok (.iadd, 1) := by decide +kernel
theorem dX2_forward_66 : decode cX2_forward 66 = .ok (.iastore, 1) := by decide +kernel
theorem dX2_forward_67 : decode cX2_forward 67 = .ok (.aload_n 0, 1) := by decide +kernel
theorem dX2_forward_68 : decode cX2_forward 68 = .ok (.getfield 50, 3) := by decide +kernel
theorem dX2_forward_71 : decode cX2_forward 71 = .ok (.iconst 5, 1) := by decide +kernel
theorem dX2_forward_72 : decode cX2_forward 72 = .ok (.aload_n 0, 1) := by decide +kernel
theorem dX2_forward_73 : decode cX2_forward 73 = .ok (.getfield 35, 3) := by decide +kernel
theorem dX2_forward_76 : decode cX2_forward 76 = .ok (.iconst 0, 1) := by decide +kernel
theorem dX2_forward_77 : decode cX2_forward 77 = .ok (.iaload, 1) := by decide +kernel
theorem dX2_forward_78 : decode cX2_forward 78 = .ok (.aload_n 0, 1) := by decide +kernel
theorem dX2_forward_79 : decode cX2_forward 79 = .ok (.getfield 35, 3) := by decide +kernel
theorem dX2_forward_82 : decode cX2_forward 82 = .ok (.iconst 1, 1) := by decide +kernel
theorem dX2_forward_83 : decode cX2_forward 83 = .ok (.iaload, 1) := by decide +kernel
theorem dX2_forward_84 : decode cX2_forward 84 = .ok (.iadd, 1) := by decide +kernel
theorem dX2_forward_85 : decode cX2_forward 85 = .ok (.iastore, 1) := by decide +kernel
theorem dX2_forward_86 : decode cX2_forward 86 = .ok (.aload_n 0, 1) := by decide +kernel
theorem dX2_forward_87 : decode cX2_forward 87 = .ok (.aload_n 0, 1) := by decide +kernel
theorem dX2_forward_88 : decode cX2_forward 88 = .ok (.getfield 50, 3) := by decide +kernel
theorem dX2_forward_91 : decode cX2_forward 91 = .ok (.iconst 0, 1) := by decide +kernel
theorem dX2_forward_92 : decode cX2_forward 92 = .ok (.invokevirtual 105, 3) := by decide +kernel
theorem dX2_forward_95 : decode cX2_forward 95 = .ok (.ifCond .ne 5, 3) := by decide +kernel
theorem dX2_forward_98 : decode cX2_forward 98 = .ok (.iconst 0, 1) := by decide +kernel
theorem dX2_forward_99 : decode cX2_forward 99 = .ok (.ireturn, 1) := by decide +kernel
theorem dX2_forward_100 : decode cX2_forward 100 = .ok (.iconst 0, 1) := by decide +kernel
theorem dX2_forward_101 : decode cX2_forward 101 = .ok (.istore_n 1, 1) := by decide +kernel
theorem dX2_forward_102 : decode cX2_forward 102 = .ok (.iload_n 1, 1) := by decide +kernel
theorem dX2_forward_103 : decode cX2_forward 103 = .ok (.aload_n 0, 1) := by decide +kernel
theorem dX2_forward_104 : decode cX2_forward 104 = .ok (.getfield 7, 3) := by decide +kernel
theorem dX2_forward_107 : decode cX2_forward 107 = .ok (.if_icmp .ge 222, 3) := by decide +kernel
theorem dX2_forward_110 : decode cX2_forward 110 = .ok (.aload_n 0, 1) := by decide +kernel
theorem dX2_forward_111 : decode cX2_forward 111 = .ok (.iload_n 1, 1) := by decide +kernel
theorem dX2_forward_112 : decode cX2_forward 112 = .ok (.iconst (-1), 1) := by decide +kernel
theorem dX2_forward_113 : decode cX2_forward 113 = .ok (.invokevirtual 108, 3) := by decide +kernel
theorem dX2_forward_116 : decode cX2_forward 116 = .ok (.bipush 6, 2) := by decide +kernel
theorem dX2_forward_118 : decode cX2_forward 118 = .ok (.iload_n 1, 1) := by decide +kernel
theorem dX2_forward_119 : decode cX2_forward 119 = .ok (.imul, 1) := by decide +kernel
theorem dX2_forward_120 : decode cX2_forward 120 = .ok (.istore_n 2, 1) := by decide +kernel
theorem dX2_forward_121 : decode cX2_forward 121 = .ok (.aload_n 0, 1) := by decide +kernel
theorem dX2_forward_122 : decode cX2_forward 122 = .ok (.getfield 50, 3) := by decide +kernel
theorem dX2_forward_125 : decode cX2_forward 125 = .ok (.iload_n 2, 1) := by decide +kernel
theorem dX2_forward_126 : decode cX2_forward 126 = .ok (.bipush 6, 2) := by decide +kernel
theorem dX2_forward_128 : decode cX2_forward 128 = .ok (.iadd, 1) := by decide +kernel
theorem dX2_forward_129 : decode cX2_forward 129 = .ok (.aload_n 0, 1) := by decide +kernel
theorem dX2_forward_130 : decode cX2_forward 130 = .ok (.getfield 50, 3) := by decide +kernel
theorem dX2_forward_133 : decode cX2_forward 133 = .ok (.iload_n 2, 1) := by decide +kernel
theorem dX2_forward_134 : decode cX2_forward 134 = .ok (.iaload, 1) := by decide +kernel
theorem dX2_forward_135 : decode cX2_forward 135 = .ok (.aload_n 0, 1) := by decide +kernel
theorem dX2_forward_136 : decode cX2_forward 136 = .ok (.getfield 59, 3) := by decide +kernel
theorem dX2_forward_139 : decode cX2_forward 139 = .ok (.iconst 0, 1) := by decide +kernel
theorem dX2_forward_140 : decode cX2_forward 140 = .ok (.iaload, 1) := by decide +kernel
theorem dX2_forward_141 : decode cX2_forward 141 = .ok (.iadd, 1) := by decide +kernel
theorem dX2_forward_142 : decode cX2_forward 142 = .ok (.aload_n 0, 1) := by decide +kernel
theorem dX2_forward_143 : decode cX2_forward 143 = .ok (.getfield 59, 3) := by decide +kernel
theorem dX2_forward_146 : decode cX2_forward 146 = .ok (.iconst 5, 1) := by decide +kernel
theorem dX2_forward_147 : decode cX2_forward 147 = .ok (.iaload, 1) := by decide +kernel
theorem dX2_forward_148 : decode cX2_forward 148 = .ok (.isub, 1) := by decide +kernel
theorem dX2_forward_149 : decode cX2_forward 149 = .ok (.iastore, 1) := by decide +kernel
theorem dX2_forward_150 : decode cX2_forward 150 = .ok (.aload_n 0, 1) := by decide +kernel
theorem dX2_forward_151 : decode cX2_forward 151 = .ok (.getfield 50, 3) := by decide +kernel
theorem dX2_forward_154 : decode cX2_forward 154 = .ok (.iload_n 2, 1) := by decide +kernel
theorem dX2_forward_155 : decode cX2_forward 155 = .ok (.bipush 7, 2) := by decide +kernel
theorem dX2_forward_157 : decode cX2_forward 157 = .ok (.iadd, 1) := by decide +kernel
theorem dX2_forward_158 : decode cX2_forward 158 = .ok (.aload_n 0, 1) := by decide +kernel
theorem dX2_forward_159 : decode cX2_forward 159 = .ok (.getfield 50, 3) := by decide +kernel
theorem dX2_forward_162 : decode cX2_forward 162 = .ok (.iload_n 2, 1) := by decide +kernel
theorem dX2_forward_163 : decode cX2_forward 163 = .ok (.iconst 1, 1) := by decide +kernel
theorem dX2_forward_164 : decode cX2_forward 164 = .ok (.iadd, 1) := by decide +kernel
theorem dX2_forward_165 : decode cX2_forward 165 = .ok (.iaload, 1) := by decide +kernel
theorem dX2_forward_166 : decode cX2_forward 166 = .ok (.aload_n 0, 1) := by decide +kernel
theorem dX2_forward_167 : decode cX2_forward 167 = .ok (.getfield 59, 3) := by decide +kernel
theorem dX2_forward_170 : decode cX2_forward 170 = .ok (.iconst 1, 1) := by decide +kernel
theorem dX2_forward_171 : decode cX2_forward 171 = .ok (.iaload, 1) := by decide +kernel
theorem dX2_forward_172 : decode cX2_forward 172 = .ok (.iadd, 1) := by decide +kernel
theorem dX2_forward_173 : decode cX2_forward 173 = .ok (.aload_n 0, 1) := by decide +kernel
theorem dX2_forward_174 : decode cX2_forward 174 = .ok (.getfield 59, 3) := by decide +kernel
theorem dX2_forward_177 : decode cX2_forward 177 = .ok (.iconst 4, 1) := by decide +kernel
theorem dX2_forward_178 : decode cX2_forward 178 = .ok (.iaload, 1) := by decide +kernel
theorem dX2_forward_179 : decode cX2_forward 179 = .ok (.isub, 1) := by decide +kernel
theorem dX2_forward_180 : decode cX2_forward 180 = .ok (.iastore, 1) := by decide +kernel
theorem dX2_forward_181 : decode cX2_forward 181 = .ok (.aload_n 0, 1) := by decide +kernel
theorem dX2_forward_182 : decode cX2_forward 182 = .ok (.getfield 50, 3) := by decide +kernel
theorem dX2_forward_185 : decode cX2_forward 185 = .ok (.iload_n 2, 1) := by decide +kernel
theorem dX2_forward_186 : decode cX2_forward 186 = .ok (.bipush 8, 2) := by decide +kernel
theorem dX2_forward_188 : decode cX2_forward 188 = .ok (.iadd, 1) := by decide +kernel
theorem dX2_forward_189 : decode cX2_forward 189 = .ok (.aload_n 0, 1) := by decide +kernel
theorem dX2_forward_190 : decode cX2_forward 190 = .ok (.getfield 50, 3) := by decide +kernel
theorem dX2_forward_193 : decode cX2_forward 193 = .ok (.iload_n 2, 1) := by decide +kernel
theorem dX2_forward_194 : decode cX2_forward 194 = .ok (.iconst 2, 1) := by decide +kernel
theorem dX2_forward_195 : decode cX2_forward 195 = .ok (.iadd, 1) := by decide +kernel
theorem dX2_forward_196 : decode cX2_forward 196 = .ok (.iaload, 1) := by decide +kernel
theorem dX2_forward_197 : decode cX2_forward 197 = .ok (.aload_n 0, 1) := by decide +kernel
theorem dX2_forward_198 : decode cX2_forward 198 = .ok (.getfield 59, 3) := by decide +kernel
theorem dX2_forward_201 : decode cX2_forward 201 = .ok (.iconst 2, 1) := by decide +kernel
theorem dX2_forward_202 : decode cX2_forward 202 = .ok (.iaload, 1) := by decide +kernel
theorem dX2_forward_203 : decode cX2_forward 203 = .ok (.iadd, 1) := by decide +kernel
theorem dX2_forward_204 : decode cX2_forward 204 = .ok (.aload_n 0, 1) := by decide +kernel
theorem dX2_forward_205 : decode cX2_forward 205 = .ok (.getfield 59, 3) := by decide +kernel
theorem dX2_forward_208 : decode cX2_forward 208 = .ok (.iconst 4, 1) := by decide +kernel
theorem dX2_forward_209 : decode cX2_forward 209 = .ok (.iaload, 1) := by decide +kernel
theorem dX2_forward_210 : decode cX2_forward 210 = .ok (.iadd, 1) := by decide +kernel
theorem dX2_forward_211 : decode cX2_forward 211 = .ok (.iastore, 1) := by decide +kernel
theorem dX2_forward_212 : decode cX2_forward 212 = .ok (.aload_n 0, 1) := by decide +kernel
theorem dX2_forward_213 : decode cX2_forward 213 = .ok (.getfield 50, 3) := by decide +kernel
theorem dX2_forward_216 : decode cX2_forward 216 = .ok (.iload_n 2, 1) := by decide +kernel
theorem dX2_forward_217 : decode cX2_forward 217 = .ok (.bipush 9, 2) := by decide +kernel
theorem dX2_forward_219 : decode cX2_forward 219 = .ok (.iadd, 1) := by decide +kernel
theorem dX2_forward_220 : decode cX2_forward 220 = .ok (.aload_n 0, 1) := by decide +kernel
theorem dX2_forward_221 : decode cX2_forward 221 = .ok (.getfield 50, 3) := by decide +kernel
theorem dX2_forward_224 : decode cX2_forward 224 = .ok (.iload_n 2, 1) := by decide +kernel
theorem dX2_forward_225 : decode cX2_forward 225 = .ok (.iconst 3, 1) := by decide +kernel
theorem dX2_forward_226 : decode cX2_forward 226 = .ok (.iadd, 1) := by decide +kernel
theorem dX2_forward_227 : decode cX2_forward 227 = .ok (.iaload, 1) := by decide +kernel
theorem dX2_forward_228 : decode cX2_forward 228 = .ok (.aload_n 0, 1) := by decide +kernel
theorem dX2_forward_229 : decode cX2_forward 229 = .ok (.getfield 59, 3) := by decide +kernel
theorem dX2_forward_232 : decode cX2_forward 232 = .ok (.iconst 3, 1) := by decide +kernel
theorem dX2_forward_233 : decode cX2_forward 233 = .ok (.iaload, 1) := by decide +kernel
theorem dX2_forward_234 : decode cX2_forward 234 = .ok (.iadd, 1) := by decide +kernel
theorem dX2_forward_235 : decode cX2_forward 235 = .ok (.aload_n 0, 1) := by decide +kernel
theorem dX2_forward_236 : decode cX2_forward 236 = .ok (.getfield 59, 3) := by decide +kernel
theorem dX2_forward_239 : decode cX2_forward 239 = .ok (.iconst 5, 1) := by decide +kernel
theorem dX2_forward_240 : decode cX2_forward 240 = .ok (.iaload, 1) := by decide +kernel
theorem dX2_forward_241 : decode cX2_forward 241 = .ok (.iadd, 1) := by decide +kernel
theorem dX2_forward_242 : decode cX2_forward 242 = .ok (.iastore, 1) := by decide +kernel
theorem dX2_forward_243 : decode cX2_forward 243 = .ok (.aload_n 0, 1) := by decide +kernel
theorem dX2_forward_244 : decode cX2_forward 244 = .ok (.getfield 50, 3) := by decide +kernel
theorem dX2_forward_247 : decode cX2_forward 247 = .ok (.iload_n 2, 1) := by decide +kernel
theorem dX2_forward_248 : decode cX2_forward 248 = .ok (.bipush 10, 2) := by decide +kernel
theorem dX2_forward_250 : decode cX2_forward 250 = .ok (.iadd, 1) := by decide +kernel
theorem dX2_forward_251 : decode cX2_forward 251 = .ok (.aload_n 0, 1) := by decide +kernel
theorem dX2_forward_252 : decode cX2_forward 252 = .ok (.getfield 50, 3) := by decide +kernel
theorem dX2_forward_255 : decode cX2_forward 255 = .ok (.iload_n 2, 1) := by decide +kernel
end
section
theorem dX2_forward_256 : decode cX2_forward 256 = .ok (.iconst 4, 1) := by decide +kernel
theorem dX2_forward_257 : decode cX2_forward 257 = .ok (.iadd, 1) := by decide +kernel
theorem dX2_forward_258 : decode cX2_forward 258 = .ok (.iaload, 1) := by decide +kernel
theorem dX2_forward_259 : decode cX2_forward 259 = .ok (.aload_n 0, 1) := by decide +kernel
theorem dX2_forward_260 : decode cX2_forward 260 = .ok (.getfield 59, 3) := by decide +kernel
theorem dX2_forward_263 : decode cX2_forward 263 = .ok (.iconst 0, 1) := by decide +kernel
theorem dX2_forward_264 : decode cX2_forward 264 = .ok (.iaload, 1) := by decide +kernel
theorem dX2_forward_265 : decode cX2_forward 265 = .ok (.iadd, 1) := by decide +kernel
theorem dX2_forward_266 : decode cX2_forward 266 = .ok (.aload_n 0, 1) := by decide +kernel
theorem dX2_forward_267 : decode cX2_forward 267 = .ok (.getfield 59, 3) := by decide +kernel
theorem dX2_forward_270 : decode cX2_forward 270 = .ok (.iconst 2, 1) := by decide +kernel
theorem dX2_forward_271 : decode cX2_forward 271 = .ok (.iaload, 1) := by decide +kernel
theorem dX2_forward_272 : decode cX2_forward 272 = .ok (.iadd, 1) := by decide +kernel
theorem dX2_forward_273 : decode cX2_forward 273 = .ok (.iastore, 1) := by decide +kernel
theorem dX2_forward_274 : decode cX2_forward 274 = .ok (.aload_n 0, 1) := by decide +kernel
theorem dX2_forward_275 : decode cX2_forward 275 = .ok (.getfield 50, 3) := by decide +kernel
theorem dX2_forward_278 : decode cX2_forward 278 = .ok (.iload_n 2, 1) := by decide +kernel
theorem dX2_forward_279 : decode cX2_forward 279 = .ok (.bipush 11, 2) := by decide +kernel
theorem dX2_forward_281 : decode cX2_forward 281 = .ok (.iadd, 1) := by decide +kernel
theorem dX2_forward_282 : decode cX2_forward 282 = .ok (.aload_n 0, 1) := by decide +kernel
theorem dX2_forward_283 : decode cX2_forward 283 = .ok (.getfield 50, 3) := by decide +kernel
theorem dX2_forward_286 : decode cX2_forward 286 = .ok (.iload_n 2, 1) := by decide +kernel
theorem dX2_forward_287 : decode cX2_forward 287 = .ok (.iconst 5, 1) := by decide +kernel
theorem dX2_forward_288 : decode cX2_forward 288 = .ok (.iadd, 1) := by decide +kernel
theorem dX2_forward_289 : decode cX2_forward 289 = .ok (.iaload, 1) := by decide +kernel
theorem dX2_forward_290 : decode cX2_forward 290 = .ok (.aload_n 0, 1) := by decide +kernel
theorem dX2_forward_291 : decode cX2_forward 291 = .ok (.getfield 59, 3) := by decide +kernel
theorem dX2_forward_294 : decode cX2_forward 294 = .ok (.iconst 1, 1) := by decide +kernel
theorem dX2_forward_295 : decode cX2_forward 295 = .ok (.iaload, 1) := by decide +kernel
theorem dX2_forward_296 : decode cX2_forward 296 = .ok (.iadd, 1) := by decide +kernel
theorem dX2_forward_297 : decode cX2_forward 297 = .ok (.aload_n 0, 1) := by decide +kernel
theorem dX2_forward_298 : decode cX2_forward 298 = .ok (.getfield 59, 3) := by decide +kernel
theorem dX2_forward_301 : decode cX2_forward 301 = .ok (.iconst 3, 1) := by decide +kernel
theorem dX2_forward_302 : decode cX2_forward 302 = .ok (.iaload, 1) := by decide +kernel
theorem dX2_forward_303 : decode cX2_forward 303 = .ok (.iadd, 1) := by decide +kernel
theorem dX2_forward_304 : decode cX2_forward 304 = .ok (.iastore, 1) := by decide +kernel
theorem dX2_forward_305 : decode cX2_forward 305 = .ok (.aload_n 0, 1) := by decide +kernel
theorem dX2_forward_306 : decode cX2_forward 306 = .ok (.aload_n 0, 1) := by decide +kernel
theorem dX2_forward_307 : decode cX2_forward 307 = .ok (.getfield 50, 3) := by decide +kernel
theorem dX2_forward_310 : decode cX2_forward 310 = .ok (.iload_n 1, 1) := by decide +kernel
theorem dX2_forward_311 : decode cX2_forward 311 = .ok (.iconst 1, 1) := by decide +kernel
theorem dX2_forward_312 : decode cX2_forward 312 = .ok (.iadd, 1) := by decide +kernel
theorem dX2_forward_313 : decode cX2_forward 313 = .ok (.invokevirtual 105, 3) := by decide +kernel
theorem dX2_forward_316 : decode cX2_forward 316 = .ok (.ifCond .ne 7, 3) := by decide +kernel
theorem dX2_forward_319 : decode cX2_forward 319 = .ok (.iload_n 1, 1) := by decide +kernel
theorem dX2_forward_320 : decode cX2_forward 320 = .ok (.iconst 1, 1) := by decide +kernel
theorem dX2_forward_321 : decode cX2_forward 321 = .ok (.iadd, 1) := by decide +kernel
theorem dX2_forward_322 : decode cX2_forward 322 = .ok (.ireturn, 1) := by decide +kernel
theorem dX2_forward_323 : decode cX2_forward 323 = .ok (.iinc 1 1, 3) := by decide +kernel
theorem dX2_forward_326 : decode cX2_forward 326 = .ok (.goto (-224), 3) := by decide +kernel
theorem dX2_forward_329 : decode cX2_forward 329 = .ok (.iconst (-1), 1) := by decide +kernel
theorem dX2_forward_330 : decode cX2_forward 330 = .ok (.ireturn, 1) := by decide +kernel
set_option maxRecDepth 20000 in
theorem ggX2_backward_X2_holds : GoodIn wsX2_backward wsX2_holds := goodIn_r _ [9, 10, 11, 12, 13, 14, 15, 16, 8, 17, 18, 19, 20, 21, 22, 23, 24, 53, 54, 55, 56, 57, 58, 59, 60, 61, 62, 63, 64, 65, 66, 67, 68, 69, 70, 71, 72, 73] (by decide +kernel) (by decide +kernel)
set_option maxRecDepth 20000 in
theorem gX2_backward_X2_holds : GoodIn wsX2_backward (wsV RX2 105 RX2 yX2_holds wsX2_holds) := goodIn_app (goodIn_of _ (by decide +kernel)) ggX2_backward_X2_holds
set_option maxRecDepth 20000 in
theorem ggX2_backward_X2_moves : GoodIn wsX2_backward wsX2_moves := goodIn_r _ [28, 4, 29, 30, 31, 32, 33, 8, 34, 35, 36, 37, 38, 39, 40, 41, 42, 15, 16, 17, 43, 44, 45, 46, 47, 48, 49, 50, 51, 52, 53, 54, 55, 56, 57, 58, 59, 60, 61, 62, 63, 64, 65, 66, 67, 68, 69, 70, 71, 72, 73] (by decide +kernel) (by decide +kernel)
set_option maxRecDepth 20000 in
theorem gX2_backward_X2_moves : GoodIn wsX2_backward (wsV RX2 108 RX2 yX2_moves wsX2_moves) := goodIn_app (goodIn_of _ (by decide +kernel)) ggX2_backward_X2_moves
theorem dX2_backward_0 : decode cX2_backward 0 = .ok (.bipush 6, 2) := by decide +kernel
theorem dX2_backward_2 : decode cX2_backward 2 = .ok (.aload_n 0, 1) := by decide +kernel
theorem dX2_backward_3 : decode cX2_backward 3 = .ok (.getfield 7, 3) := by decide +kernel
theorem dX2_backward_6 : decode cX2_backward 6 = .ok (.imul, 1) := by decide +kernel
theorem dX2_backward_7 : decode cX2_backward 7 = .ok (.istore_n 1, 1) := by decide +kernel
theorem dX2_backward_8 : decode cX2_backward 8 = .ok (.iconst 0, 1) := by decide +kernel
theorem dX2_backward_9 : decode cX2_backward 9 = .ok (.istore_n 2, 1) := by decide +kernel
theorem dX2_backward_10 : decode cX2_backward 10 = .ok (.iload_n 2, 1) := by decide +kernel
theorem dX2_backward_11 : decode cX2_backward 11 = .ok (.bipush 6, 2) := by decide +kernel
theorem dX2_backward_13 : decode cX2_backward 13 = .ok (.if_icmp .ge 29, 3) := by decide +kernel
theorem dX2_backward_16 : decode cX2_backward 16 = .ok (.aload_n 0, 1) := by decide +kernel
theorem dX2_backward_17 : decode cX2_backward 17 = .ok (.getfield 53, 3) := by decide +kernel
theorem dX2_backward_20 : decode cX2_backward 20 = .ok (.iload_n 1, 1) := by decide +kernel
theorem dX2_backward_21 : decode cX2_backward 21 = .ok (.iload_n 2, 1) := by decide +kernel
theorem dX2_backward_22 : decode cX2_backward 22 = .ok (.iadd, 1) := by decide +kernel
theorem dX2_backward_23 : decode cX2_backward 23 = .ok (.iload_n 2, 1) := by decide +kernel
theorem dX2_backward_24 : decode cX2_backward 24 = .ok (.iconst 2, 1) := by decide +kernel
theorem dX2_backward_25 : decode cX2_backward 25 = .ok (.irem, 1) := by decide +kernel
theorem dX2_backward_26 : decode cX2_backward 26 = .ok (.ifCond .ne 7, 3) := by decide +kernel
theorem dX2_backward_29 : decode cX2_backward 29 = .ok (.iconst 0, 1) := by decide +kernel
theorem dX2_backward_30 : decode cX2_backward 30 = .ok (.goto 5, 3) := by decide +kernel
theorem dX2_backward_33 : decode cX2_backward 33 = .ok (.ldc 112, 2) := by decide +kernel
theorem dX2_backward_35 : decode cX2_backward 35 = .ok (.iastore, 1) := by decide +kernel
theorem dX2_backward_36 : decode cX2_backward 36 = .ok (.iinc 2 1, 3) := by decide +kernel
theorem dX2_backward_39 : decode cX2_backward 39 = .ok (.goto (-29), 3) := by decide +kernel
theorem dX2_backward_42 : decode cX2_backward 42 = .ok (.aload_n 0, 1) := by decide +kernel
theorem dX2_backward_43 : decode cX2_backward 43 = .ok (.aload_n 0, 1) := by decide +kernel
theorem dX2_backward_44 : decode cX2_backward 44 = .ok (.getfield 53, 3) := by decide +kernel
theorem dX2_backward_47 : decode cX2_backward 47 = .ok (.aload_n 0, 1) := by decide +kernel
theorem dX2_backward_48 : decode cX2_backward 48 = .ok (.getfield 7, 3) := by decide +kernel
theorem dX2_backward_51 : decode cX2_backward 51 = .ok (.invokevirtual 105, 3) := by decide +kernel
theorem dX2_backward_54 : decode cX2_backward 54 = .ok (.istore_n 2, 1) := by decide +kernel
theorem dX2_backward_55 : decode cX2_backward 55 = .ok (.aload_n 0, 1) := by decide +kernel
theorem dX2_backward_56 : decode cX2_backward 56 = .ok (.getfield 7, 3) := by decide +kernel
theorem dX2_backward_59 : decode cX2_backward 59 = .ok (.iconst 1, 1) := by decide +kernel
theorem dX2_backward_60 : decode cX2_backward 60 = .ok (.isub, 1) := by decide +kernel
theorem dX2_backward_61 : decode cX2_backward 61 = .ok (.istore_n 3, 1) := by decide +kernel
theorem dX2_backward_62 : decode cX2_backward 62 = .ok (.iload_n 3, 1) := by decide +kernel
theorem dX2_backward_63 : decode cX2_backward 63 = .ok (.ifCond .lt 227, 3) := by decide +kernel
theorem dX2_backward_66 : decode cX2_backward 66 = .ok (.aload_n 0, 1) := by decide +kernel
theorem dX2_backward_67 : decode cX2_backward 67 = .ok (.iload_n 3, 1) := by decide +kernel
theorem dX2_backward_68 : decode cX2_backward 68 = .ok (.iconst (-1), 1) := by decide +kernel
theorem dX2_backward_69 : decode cX2_backward 69 = .ok (.invokevirtual 108, 3) := by decide +kernel
theorem dX2_backward_72 : decode cX2_backward 72 = .ok (.bipush 6, 2) := by decide +kernel
theorem dX2_backward_74 : decode cX2_backward 74 = .ok (.iload_n 3, 1) := by decide +kernel
theorem dX2_backward_75 : decode cX2_backward 75 = .ok (.imul, 1) := by decide +kernel
theorem dX2_backward_76 : decode cX2_backward 76 = .ok (.istore 4, 2) := by decide +kernel
theorem dX2_backward_78 : decode cX2_backward 78 = .ok (.aload_n 0, 1) := by decide +kernel
theorem dX2_backward_79 : decode cX2_backward 79 = .ok (.getfield 53, 3) := by decide +kernel
theorem dX2_backward_82 : decode cX2_backward 82 = .ok (.iload 4, 2) := by decide +kernel
theorem dX2_backward_84 : decode cX2_backward 84 = .ok (.aload_n 0, 1) := by decide +kernel
theorem dX2_backward_85 : decode cX2_backward 85 = .ok (.getfield 53, 3) := by decide +kernel
theorem dX2_backward_88 : decode cX2_backward 88 = .ok (.iload 4, 2) := by decide +kernel
theorem dX2_backward_90 : decode cX2_backward 90 = .ok (.bipush 6, 2) := by decide +kernel
theorem dX2_backward_92 : decode cX2_backward 92 = .ok (.iadd, 1) := by decide +kernel
theorem dX2_backward_93 : decode cX2_backward 93 = .ok (.iaload, 1) := by decide +kernel
theorem dX2_backward_94 : decode cX2_backward 94 = .ok (.aload_n 0, 1) := by decide +kernel
theorem dX2_backward_95 : decode cX2_backward 95 = .ok (.getfield 59, 3) := by decide +kernel
theorem dX2_backward_98 : decode cX2_backward 98 = .ok (.iconst 1, 1) := by decide +kernel
theorem dX2_backward_99 : decode cX2_backward 99 = .ok (.iaload, 1) := by decide +kernel
theorem dX2_backward_100 : decode cX2_backward 100 = .ok (.isub, 1) := by decide +kernel
theorem dX2_backward_101 : decode cX2_backward 101 = .ok (.aload_n 0, 1) := by decide +kernel
theorem dX2_backward_102 : decode cX2_backward 102 = .ok (.getfield 59, 3) := by decide +kernel
theorem dX2_backward_105 : decode cX2_backward 105 = .ok (.iconst 4, 1) := by decide +kernel
theorem dX2_backward_106 : decode cX2_backward 106 = .ok (.iaload, 1) := by decide +kernel
theorem dX2_backward_107 : decode cX2_backward 107 = .ok (.iadd, 1) := by decide +kernel
theorem dX2_backward_108 : decode cX2_backward 108 = .ok (.iastore, 1) := by decide +kernel
theorem dX2_backward_109 : decode cX2_backward 109 = .ok (.aload_n 0, 1) := by decide +kernel
theorem dX2_backward_110 : decode cX2_backward 110 = .ok (.getfield 53, 3) := by decide +kernel
theorem dX2_backward_113 : decode cX2_backward 113 = .ok (.iload 4, 2) := by decide +kernel
theorem dX2_backward_115 : decode cX2_backward 115 = .ok (.iconst 1, 1) := by decide +kernel
theorem dX2_backward_116 : decode cX2_backward 116 = .ok (.iadd, 1) := by decide +kernel
theorem dX2_backward_117 : decode cX2_backward 117 = .ok (.aload_n 0, 1) := by decide +kernel
theorem dX2_backward_118 : decode cX2_backward 118 = .ok (.getfield 53, 3) := by decide +kernel
theorem dX2_backward_121 : decode cX2_backward 121 = .ok (.iload 4, 2) := by decide +kernel
theorem dX2_backward_123 : decode cX2_backward 123 = .ok (.bipush 7, 2) := by decide +kernel
theorem dX2_backward_125 : decode cX2_backward 125 = .ok (.iadd, 1) := by decide +kernel
theorem dX2_backward_126 : decode cX2_backward 126 = .ok (.iaload, 1) := by decide +kernel
theorem dX2_backward_127 : decode cX2_backward 127 = .ok (.aload_n 0, 1) := by decide +kernel
theorem dX2_backward_128 : decode cX2_backward 128 = .ok (.getfield 59, 3) := by decide +kernel
theorem dX2_backward_131 : decode cX2_backward 131 = .ok (.iconst 0, 1) := by decide +kernel
theorem dX2_backward_132 : decode cX2_backward 132 = .ok (.iaload, 1) := by decide +kernel
theorem dX2_backward_133 : decode cX2_backward 133 = .ok (.isub, 1) := by decide +kernel
theorem dX2_backward_134 : decode cX2_backward 134 = .ok (.aload_n 0, 1) := by decide +kernel
theorem dX2_backward_135 : decode cX2_backward 135 = .ok (.getfield 59, 3) := by decide +kernel
theorem dX2_backward_138 : decode cX2_backward 138 = .ok (.iconst 5, 1) := by decide +kernel
theorem dX2_backward_139 : decode cX2_backward 139 = .ok (.iaload, 1) := by decide +kernel
theorem dX2_backward_140 : decode cX2_backward 140 = .ok (.iadd, 1) := by decide +kernel
theorem dX2_backward_141 : decode cX2_backward 141 = .ok (.iastore, 1) := by decide +kernel
theorem dX2_backward_142 : decode cX2_backward 142 = .ok (.aload_n 0, 1) := by decide +kernel
theorem dX2_backward_143 : decode cX2_backward 143 = .ok (.getfield 53, 3) := by decide +kernel
theorem dX2_backward_146 : decode cX2_backward 146 = .ok (.iload 4, 2) := by decide +kernel
theorem dX2_backward_148 : decode cX2_backward 148 = .ok (.iconst 2, 1) := by decide +kernel
theorem dX2_backward_149 : decode cX2_backward 149 = .ok (.iadd, 1) := by decide +kernel
theorem dX2_backward_150 : decode cX2_backward 150 = .ok (.aload_n 0, 1) := by decide +kernel
theorem dX2_backward_151 : decode cX2_backward 151 = .ok (.getfield 53, 3) := by decide +kernel
theorem dX2_backward_154 : decode cX2_backward 154 = .ok (.iload 4, 2) := by decide +kernel
theorem dX2_backward_156 : decode cX2_backward 156 = .ok (.bipush 8, 2) := by decide +kernel
theorem dX2_backward_158 : decode cX2_backward 158 = .ok (.iadd, 1) := by decide +kernel
theorem dX2_backward_159 : decode cX2_backward 159 = .ok (.iaload, 1) := by decide +kernel
theorem dX2_backward_160 : decode cX2_backward 160 = .ok (.aload_n 0, 1) := by decide +kernel
theorem dX2_backward_161 : decode cX2_backward 161 = .ok (.getfield 59, 3) := by decide +kernel
theorem dX2_backward_164 : decode cX2_backward 164 = .ok (.iconst 3, 1) := by decide +kernel
theorem dX2_backward_165 : decode cX2_backward 165 = .ok (.iaload, 1) := by decide +kernel
theorem dX2_backward_166 : decode cX2_backward 166 = .ok (.isub, 1) := by decide +kernel
theorem dX2_backward_167 : decode cX2_backward 167 = .ok (.aload_n 0, 1) := by decide +kernel
theorem dX2_backward_168 : decode cX2_backward 168 = .ok (.getfield 59, 3) := by decide +kernel
theorem dX2_backward_171 : decode cX2_backward 171 = .ok (.iconst 5, 1) := by decide +kernel
theorem dX2_backward_172 : decode cX2_backward 172 = .ok (.iaload, 1) := by decide +kernel
theorem dX2_backward_173 : decode cX2_backward 173 = .ok (.isub, 1) := by decide +kernel
theorem dX2_backward_174 : decode cX2_backward 174 = .ok (.iastore, 1) := by decide +kernel
theorem dX2_backward_175 : decode cX2_backward 175 = .ok (.aload_n 0, 1) := by decide +kernel
theorem dX2_backward_176 : decode cX2_backward 176 = .ok (.getfield 53, 3) := by decide +kernel
theorem dX2_backward_179 : decode cX2_backward 179 = .ok (.iload 4, 2) := by decide +kernel
theorem dX2_backward_181 : decode cX2_backward 181 = .ok (.iconst 3, 1) := by decide +kernel
theorem dX2_backward_182 : decode cX2_backward 182 = .ok (.iadd, 1) := by decide +kernel
theorem dX2_backward_183 : decode cX2_backward 183 = .ok (.aload_n 0, 1) := by decide +kernel
theorem dX2_backward_184 : decode cX2_backward 184 = .ok (.getfield 53, 3) := by decide +kernel
theorem dX2_backward_187 : decode cX2_backward 187 = .ok (.iload 4, 2) := by decide +kernel
theorem dX2_backward_189 : decode cX2_backward 189 = .ok (.bipush 9, 2) := by decide +kernel
theorem dX2_backward_191 : decode cX2_backward 191 = .ok (.iadd, 1) := by decide +kernel
theorem dX2_backward_192 : decode cX2_backward 192 = .ok (.iaload, 1) := by decide +kernel
theorem dX2_backward_193 : decode cX2_backward 193 = .ok (.aload_n 0, 1) := by decide +kernel
theorem dX2_backward_194 : decode cX2_backward 194 = .ok (.getfield 59, 3) := by decide +kernel
theorem dX2_backward_197 : decode cX2_backward 197 = .ok (.iconst 2, 1) := by decide +kernel
theorem dX2_backward_198 : decode cX2_backward 198 = .ok (.iaload, 1) := by decide +kernel
theorem dX2_backward_199 : decode cX2_backward 199 = .ok (.isub, 1) := by decide +kernel
theorem dX2_backward_200 : decode cX2_backward 200 = .ok (.aload_n 0, 1) := by decide +kernel
theorem dX2_backward_201 : decode cX2_backward 201 = .ok (.getfield 59, 3) := by decide +kernel
theorem dX2_backward_204 : decode cX2_backward 204 = .ok (.iconst 4, 1) := by decide +kernel
theorem dX2_backward_205 : decode cX2_backward 205 = .ok (.iaload, 1) := by decide +kernel
theorem dX2_backward_206 : decode cX2_backward 206 = .ok (.isub, 1) := by decide +kernel
theorem dX2_backward_207 : decode cX2_backward 207 = .ok (.iastore, 1) := by decide +kernel
theorem dX2_backward_208 : decode cX2_backward 208 = .ok (.aload_n 0, 1) := by decide +kernel
theorem dX2_backward_209 : decode cX2_backward 209 = .ok (.getfield 53, 3) := by decide +kernel
theorem dX2_backward_212 : decode cX2_backward 212 = .ok (.iload 4, 2) := by decide +kernel
theorem dX2_backward_214 : decode cX2_backward 214 = .ok (.iconst 4, 1) := by decide +kernel
theorem dX2_backward_215 : decode cX2_backward 215 = .ok (.iadd, 1) := by decide +kernel
theorem dX2_backward_216 : decode cX2_backward 216 = .ok (.aload_n 0, 1) := by decide +kernel
theorem dX2_backward_217 : decode cX2_backward 217 = .ok (.getfield 53, 3) := by decide +kernel
theorem dX2_backward_220 : decode cX2_backward 220 = .ok (.iload 4, 2) := by decide +kernel
theorem dX2_backward_222 : decode cX2_backward 222 = .ok (.bipush 10, 2) := by decide +kernel
theorem dX2_backward_224 : decode cX2_backward 224 = .ok (.iadd, 1) := by decide +kernel
theorem dX2_backward_225 : decode cX2_backward 225 = .ok (.iaload, 1) := by decide +kernel
theorem dX2_backward_226 : decode cX2_backward 226 = .ok (.aload_n 0, 1) := by decide +kernel
theorem dX2_backward_227 : decode cX2_backward 227 = .ok (.getfield 59, 3) := by decide +kernel
theorem dX2_backward_230 : decode cX2_backward 230 = .ok (.iconst 1, 1) := by decide +kernel
theorem dX2_backward_231 : decode cX2_backward 231 = .ok (.iaload, 1) := by decide +kernel
theorem dX2_backward_232 : decode cX2_backward 232 = .ok (.isub, 1) := by decide +kernel
theorem dX2_backward_233 : decode cX2_backward 233 = .ok (.aload_n 0, 1) := by decide +kernel
theorem dX2_backward_234 : decode cX2_backward 234 = .ok (.getfield 59, 3) := by decide +kernel
theorem dX2_backward_237 : decode cX2_backward 237 = .ok (.iconst 3, 1) := by decide +kernel
theorem dX2_backward_238 : decode cX2_backward 238 = .ok (.iaload, 1) := by decide +kernel
theorem dX2_backward_239 : decode cX2_backward 239 = .ok (.isub, 1) := by decide +kernel
theorem dX2_backward_240 : decode cX2_backward 240 = .ok (.iastore, 1) := by decide +kernel
theorem dX2_backward_241 : decode cX2_backward 241 = .ok (.aload_n 0, 1) := by decide +kernel
theorem dX2_backward_242 : decode cX2_backward 242 = .ok (.getfield 53, 3) := by decide +kernel
theorem dX2_backward_245 : decode cX2_backward 245 = .ok (.iload 4, 2) := by decide +kernel
theorem dX2_backward_247 : decode cX2_backward 247 = .ok (.iconst 5, 1) := by decide +kernel
theorem dX2_backward_248 : decode cX2_backward 248 = .ok (.iadd, 1) := by decide +kernel
theorem dX2_backward_249 : decode cX2_backward 249 = .ok (.aload_n 0, 1) := by decide +kernel
theorem dX2_backward_250 : decode cX2_backward 250 = .ok (.getfield 53, 3) := by decide +kernel
theorem dX2_backward_253 : decode cX2_backward 253 = .ok (.iload 4, 2) := by decide +kernel
theorem dX2_backward_255 : decode cX2_backward 255 = .ok (.bipush 11, 2) := by decide +kernel
theorem dX2_backward_257 : decode cX2_backward 257 = .ok (.iadd, 1) := by decide +kernel
theorem dX2_backward_258 : decode cX2_backward 258 = .ok (.iaload, 1) := by decide +kernel
theorem dX2_backward_259 : decode cX2_backward 259 = .ok (.aload_n 0, 1) := by decide +kernel
theorem dX2_backward_260 : decode cX2_backward 260 = .ok (.getfield 59, 3) := by decide +kernel
theorem dX2_backward_263 : decode cX2_backward 263 = .ok (.iconst 0, 1) := by decide +kernel
theorem dX2_backward_264 : decode cX2_backward 264 = .ok (.iaload, 1) := by decide +kernel
theorem dX2_backward_265 : decode cX2_backward 265 = .ok (.isub, 1) := by decide +kernel
theorem dX2_backward_266 : decode cX2_backward 266 = .ok (.aload_n 0, 1) := by decide +kernel
theorem dX2_backward_267 : decode cX2_backward 267 = .ok (.getfield 59, 3) := by decide +kernel
theorem dX2_backward_270 : decode cX2_backward 270 = .ok (.iconst 2, 1) := by decide +kernel
theorem dX2_backward_271 : decode cX2_backward 271 = .ok (.iaload, 1) := by decide +kernel
theorem dX2_backward_272 : decode cX2_backward 272 = .ok (.isub, 1) := by decide +kernel
theorem dX2_backward_273 : decode cX2_backward 273 = .ok (.iastore, 1) := by decide +kernel
theorem dX2_backward_274 : decode cX2_backward 274 = .ok (.aload_n 0, 1) := by decide +kernel
theorem dX2_backward_275 : decode cX2_backward 275 = .ok (.aload_n 0, 1) := by decide +kernel
theorem dX2_backward_276 : decode cX2_backward 276 = .ok (.getfield 53, 3) := by decide +kernel
theorem dX2_backward_279 : decode cX2_backward 279 = .ok (.iload_n 3, 1) := by decide +kernel
theorem dX2_backward_280 : decode cX2_backward 280 = .ok (.invokevirtual 105, 3) := by decide +kernel
theorem dX2_backward_283 : decode cX2_backward 283 = .ok (.istore_n 2, 1) := by decide +kernel
theorem dX2_backward_284 : decode cX2_backward 284 = .ok (.iinc 3 (-1), 3) := by decide +kernel
theorem dX2_backward_287 : decode cX2_backward 287 = .ok (.goto (-225), 3) := by decide +kernel
theorem dX2_backward_290 : decode cX2_backward 290 = .ok (.return_, 1) := by decide +kernel
set_option maxRecDepth 20000 in
theorem ggX2_work_X2_forward : GoodIn wsX2_work wsX2_forward := goodIn_r _ [10, 4, 11, 12, 2, 13, 14, 15, 16, 9, 17, 18, 19, 20, 21, 22, 23, 24, 25, 26, 27, 28, 29, 30, 31, 32, 33, 34, 35, 36, 37, 38, 39, 40, 41, 42, 43, 44, 45, 46, 47, 48, 49, 1, 50, 51, 52, 53, 54, 55, 56, 57, 58, 59, 65, 66, 67, 68, 69, 70, 71, 72, 73, 74, 75, 76, 77, 78, 79, 80, 81, 82, 83, 84, 85] (by decide +kernel) (by decide +kernel)
set_option maxRecDepth 20000 in
theorem gX2_work_X2_forward : GoodIn wsX2_work (wsV RX2 113 RX2 yX2_forward wsX2_forward) := goodIn_app (goodIn_of _ (by decide +kernel)) ggX2_work_X2_forward
set_option maxRecDepth 20000 in
theorem ggX2_work_X2_backward : GoodIn wsX2_work wsX2_backward := goodIn_r _ [63, 2, 5, 64, 13, 14, 15, 16, 9, 17, 18, 19, 20, 21, 22, 23, 24, 25, 26, 27, 28, 29, 30, 31, 32, 33, 34, 35, 36, 37, 38, 39, 40, 41, 42, 43, 44, 45, 46, 47, 48, 49, 1, 50, 51, 52, 53, 54, 55, 56, 57, 58, 59, 65, 66, 67, 68, 69, 70, 71, 72, 73, 74, 75, 76, 77, 78, 79, 80, 81, 82, 83, 84, 85] (by decide +kernel) (by decide +kernel)
set_option maxRecDepth 20000 in
theorem gX2_work_X2_backward : GoodIn wsX2_work (wsV RX2 117 RX2 yX2_backward wsX2_backward) := goodIn_app (goodIn_of _ (by decide +kernel)) ggX2_work_X2_backward
set_option maxRecDepth 20000 in
theorem ggX2_work_X2_greater : GoodIn wsX2_work wsX2_greater := goodIn_r _ [25] (by decide +kernel) (by decide +kernel)
set_option maxRecDepth 20000 in
theorem gX2_work_X2_greater : GoodIn wsX2_work (va_wsS RX2 82 yX2_greater wsX2_greater) := goodIn_app (goodIn_of _ (by decide +kernel)) ggX2_work_X2_greater
set_option maxRecDepth 20000 in
theorem ggX2_work_X2_lesser : GoodIn wsX2_work wsX2_lesser := goodIn_r _ [28] (by decide +kernel) (by decide +kernel)
set_option maxRecDepth 20000 in
theorem gX2_work_X2_lesser : GoodIn wsX2_work (va_wsS RX2 98 yX2_lesser wsX2_lesser) := goodIn_app (goodIn_of _ (by decide +kernel)) ggX2_work_X2_lesser
set_option maxRecDepth 20000 in
theorem ggX2_work_X2_close : GoodIn wsX2_work wsX2_close := goodIn_r _ [32, 23, 24, 9, 25, 26, 27, 28] (by decide +kernel) (by decide +kernel)
set_option maxRecDepth 20000 in
theorem gX2_work_X2_close : GoodIn wsX2_work (wsV RX2 101 RX2 yX2_close wsX2_close) := goodIn_app (goodIn_of _ (by decide +kernel)) ggX2_work_X2_close
theorem dX2_work_0 : decode cX2_work 0 = .ok (.aload_n 0, 1) := by decide +kernel
theorem dX2_work_1 : decode cX2_work 1 = .ok (.iconst 0, 1) := by decide +kernel
theorem dX2_work_2 : decode cX2_work 2 = .ok (.putfield 79, 3) := by decide +kernel
theorem dX2_work_5 : decode cX2_work 5 = .ok (.aload_n 0, 1) := by decide +kernel
theorem dX2_work_6 : decode cX2_work 6 = .ok (.invokevirtual 113, 3) := by decide +kernel
theorem dX2_work_9 : decode cX2_work 9 = .ok (.ifCond .lt 5, 3) := by decide +kernel
theorem dX2_work_12 : decode cX2_work 12 = .ok (.iconst 0, 1) := by decide +kernel
theorem dX2_work_13 : decode cX2_work 13 = .ok (.ireturn, 1) := by decide +kernel
theorem dX2_work_14 : decode cX2_work 14 = .ok (.aload_n 0, 1) := by decide +kernel
theorem dX2_work_15 : decode cX2_work 15 = .ok (.invokevirtual 117, 3) := by decide +kernel
theorem dX2_work_18 : decode cX2_work 18 = .ok (.iconst 0, 1) := by decide +kernel
theorem dX2_work_19 : decode cX2_work 19 = .ok (.istore_n 1, 1) := by decide +kernel
theorem dX2_work_20 : decode cX2_work 20 = .ok (.iload_n 1, 1) := by decide +kernel
theorem dX2_work_21 : decode cX2_work 21 = .ok (.aload_n 0, 1) := by decide +kernel
theorem dX2_work_22 : decode cX2_work 22 = .ok (.getfield 7, 3) := by decide +kernel
theorem dX2_work_25 : decode cX2_work 25 = .ok (.if_icmp .gt 89, 3) := by decide +kernel
theorem dX2_work_28 : decode cX2_work 28 = .ok (.bipush 6, 2) := by decide +kernel
theorem dX2_work_30 : decode cX2_work 30 = .ok (.iload_n 1, 1) := by decide +kernel
theorem dX2_work_31 : decode cX2_work 31 = .ok (.imul, 1) := by decide +kernel
theorem dX2_work_32 : decode cX2_work 32 = .ok (.istore_n 2, 1) := by decide +kernel
theorem dX2_work_33 : decode cX2_work 33 = .ok (.iload_n 2, 1) := by decide +kernel
theorem dX2_work_34 : decode cX2_work 34 = .ok (.bipush 6, 2) := by decide +kernel
theorem dX2_work_36 : decode cX2_work 36 = .ok (.iload_n 1, 1) := by decide +kernel
theorem dX2_work_37 : decode cX2_work 37 = .ok (.imul, 1) := by decide +kernel
theorem dX2_work_38 : decode cX2_work 38 = .ok (.bipush 6, 2) := by decide +kernel
theorem dX2_work_40 : decode cX2_work 40 = .ok (.iadd, 1) := by decide +kernel
theorem dX2_work_41 : decode cX2_work 41 = .ok (.if_icmp .ge 54, 3) := by decide +kernel
theorem dX2_work_44 : decode cX2_work 44 = .ok (.aload_n 0, 1) := by decide +kernel
theorem dX2_work_45 : decode cX2_work 45 = .ok (.getfield 56, 3) := by decide +kernel
theorem dX2_work_48 : decode cX2_work 48 = .ok (.iload_n 2, 1) := by decide +kernel
theorem dX2_work_49 : decode cX2_work 49 = .ok (.iload_n 2, 1) := by decide +kernel
theorem dX2_work_50 : decode cX2_work 50 = .ok (.iconst 2, 1) := by decide +kernel
theorem dX2_work_51 : decode cX2_work 51 = .ok (.irem, 1) := by decide +kernel
theorem dX2_work_52 : decode cX2_work 52 = .ok (.ifCond .ne 21, 3) := by decide +kernel
theorem dX2_work_55 : decode cX2_work 55 = .ok (.aload_n 0, 1) := by decide +kernel
theorem dX2_work_56 : decode cX2_work 56 = .ok (.getfield 50, 3) := by decide +kernel
theorem dX2_work_59 : decode cX2_work 59 = .ok (.iload_n 2, 1) := by decide +kernel
theorem dX2_work_60 : decode cX2_work 60 = .ok (.iaload, 1) := by decide +kernel
theorem dX2_work_61 : decode cX2_work 61 = .ok (.aload_n 0, 1) := by decide +kernel
theorem dX2_work_62 : decode cX2_work 62 = .ok (.getfield 53, 3) := by decide +kernel
theorem dX2_work_65 : decode cX2_work 65 = .ok (.iload_n 2, 1) := by decide +kernel
theorem dX2_work_66 : decode cX2_work 66 = .ok (.iaload, 1) := by decide +kernel
theorem dX2_work_67 : decode cX2_work 67 = .ok (.invokestatic 82, 3) := by decide +kernel
theorem dX2_work_70 : decode cX2_work 70 = .ok (.goto 18, 3) := by decide +kernel
theorem dX2_work_73 : decode cX2_work 73 = .ok (.aload_n 0, 1) := by decide +kernel
theorem dX2_work_74 : decode cX2_work 74 = .ok (.getfield 50, 3) := by decide +kernel
theorem dX2_work_77 : decode cX2_work 77 = .ok (.iload_n 2, 1) := by decide +kernel
theorem dX2_work_78 : decode cX2_work 78 = .ok (.iaload, 1) := by decide +kernel
theorem dX2_work_79 : decode cX2_work 79 = .ok (.aload_n 0, 1) := by decide +kernel
theorem dX2_work_80 : decode cX2_work 80 = .ok (.getfield 53, 3) := by decide +kernel
theorem dX2_work_83 : decode cX2_work 83 = .ok (.iload_n 2, 1) := by decide +kernel
theorem dX2_work_84 : decode cX2_work 84 = .ok (.iaload, 1) := by decide +kernel
theorem dX2_work_85 : decode cX2_work 85 = .ok (.invokestatic 98, 3) := by decide +kernel
theorem dX2_work_88 : decode cX2_work 88 = .ok (.iastore, 1) := by decide +kernel
theorem dX2_work_89 : decode cX2_work 89 = .ok (.iinc 2 1, 3) := by decide +kernel
theorem dX2_work_92 : decode cX2_work 92 = .ok (.goto (-59), 3) := by decide +kernel
theorem dX2_work_95 : decode cX2_work 95 = .ok (.aload_n 0, 1) := by decide +kernel
theorem dX2_work_96 : decode cX2_work 96 = .ok (.aload_n 0, 1) := by decide +kernel
theorem dX2_work_97 : decode cX2_work 97 = .ok (.getfield 56, 3) := by decide +kernel
theorem dX2_work_100 : decode cX2_work 100 = .ok (.bipush 6, 2) := by decide +kernel
theorem dX2_work_102 : decode cX2_work 102 = .ok (.iload_n 1, 1) := by decide +kernel
theorem dX2_work_103 : decode cX2_work 103 = .ok (.imul, 1) := by decide +kernel
theorem dX2_work_104 : decode cX2_work 104 = .ok (.invokevirtual 101, 3) := by decide +kernel
theorem dX2_work_107 : decode cX2_work 107 = .ok (.istore_n 2, 1) := by decide +kernel
theorem dX2_work_108 : decode cX2_work 108 = .ok (.iinc 1 1, 3) := by decide +kernel
theorem dX2_work_111 : decode cX2_work 111 = .ok (.goto (-91), 3) := by decide +kernel
theorem dX2_work_114 : decode cX2_work 114 = .ok (.iconst 1, 1) := by decide +kernel
theorem dX2_work_115 : decode cX2_work 115 = .ok (.ireturn, 1) := by decide +kernel
set_option maxRecDepth 20000 in
theorem ggX2_fits_X2_forward : GoodIn wsX2_fits wsX2_forward := goodIn_r _ [7, 8, 9, 10, 11, 12, 13, 14, 15, 6, 16, 17, 18, 19, 20, 21, 22, 23, 24, 25, 26, 27, 28, 29, 30, 31, 32, 33, 34, 35, 36, 37, 38, 39, 40, 41, 42, 43, 44, 45, 46, 47, 48, 2, 49, 50, 51, 52, 53, 54, 55, 56, 57, 58, 59, 60, 61, 62, 63, 64, 65, 66, 67, 68, 69, 70, 71, 72, 73, 74, 75, 76, 77, 78, 79] (by decide +kernel) (by decide +kernel)
set_option maxRecDepth 20000 in
theorem gX2_fits_X2_forward : GoodIn wsX2_fits (wsV RX2 113 RX2 yX2_forward wsX2_forward) := goodIn_app (goodIn_of _ (by decide +kernel)) ggX2_fits_X2_forward
theorem dX2_fits_0 : decode cX2_fits 0 = .ok (.aload_n 0, 1) := by decide +kernel
theorem dX2_fits_1 : decode cX2_fits 1 = .ok (.iconst 0, 1) := by decide +kernel
theorem dX2_fits_2 : decode cX2_fits 2 = .ok (.putfield 66, 3) := by decide +kernel
theorem dX2_fits_5 : decode cX2_fits 5 = .ok (.aload_n 0, 1) := by decide +kernel
theorem dX2_fits_6 : decode cX2_fits 6 = .ok (.iconst 0, 1) := by decide +kernel
theorem dX2_fits_7 : decode cX2_fits 7 = .ok (.putfield 79, 3) := by decide +kernel
theorem dX2_fits_10 : decode cX2_fits 10 = .ok (.aload_n 0, 1) := by decide +kernel
theorem dX2_fits_11 : decode cX2_fits 11 = .ok (.invokevirtual 113, 3) := by decide +kernel
theorem dX2_fits_14 : decode cX2_fits 14 = .ok (.ifCond .ge 7, 3) := by decide +kernel
theorem dX2_fits_17 : decode cX2_fits 17 = .ok (.iconst 1, 1) := by decide +kernel
theorem dX2_fits_18 : decode cX2_fits 18 = .ok (.goto 4, 3) := by decide +kernel
theorem dX2_fits_21 : decode cX2_fits 21 = .ok (.iconst 0, 1) := by decide +kernel
theorem dX2_fits_22 : decode cX2_fits 22 = .ok (.ireturn, 1) := by decide +kernel
theorem dX2_fails_0 : decode cX2_fails 0 = .ok (.aload_n 0, 1) := by decide +kernel
theorem dX2_fails_1 : decode cX2_fails 1 = .ok (.iload_n 1, 1) := by decide +kernel
theorem dX2_fails_2 : decode cX2_fails 2 = .ok (.putfield 66, 3) := by decide +kernel
theorem dX2_fails_5 : decode cX2_fails 5 = .ok (.iconst 0, 1) := by decide +kernel
theorem dX2_fails_6 : decode cX2_fails 6 = .ok (.ireturn, 1) := by decide +kernel
set_option maxRecDepth 20000 in
theorem ggX2_inside_X2_fails : GoodIn wsX2_inside wsX2_fails := goodIn_r _ [8, 1, 74, 75, 76, 77, 78, 79, 80, 81, 82, 83, 84, 85, 86, 87, 88, 89, 90, 91, 92, 93, 94] (by decide +kernel) (by decide +kernel)
set_option maxRecDepth 20000 in
theorem gX2_inside_X2_fails : GoodIn wsX2_inside (wsV RX2 120 RX2 yX2_fails wsX2_fails) := goodIn_app (goodIn_of _ (by decide +kernel)) ggX2_inside_X2_fails
set_option maxRecDepth 20000 in
theorem ggX2_inside_X2_work : GoodIn wsX2_inside wsX2_work := goodIn_r _ [12, 13, 2, 3, 14, 15, 16, 17, 18, 7, 19, 20, 21, 22, 23, 24, 25, 26, 27, 28, 29, 30, 31, 32, 33, 34, 35, 36, 37, 38, 39, 40, 41, 42, 43, 44, 45, 46, 47, 48, 49, 50, 51, 52, 53, 54, 55, 56, 57, 58, 59, 60, 61, 62, 63, 64, 65, 66, 67, 68, 69, 70, 71, 72, 73, 74, 75, 76, 77, 78, 79, 80, 81, 82, 83, 84, 85, 86, 87, 88, 89, 90, 91, 92, 93, 94] (by decide +kernel) (by decide +kernel)
set_option maxRecDepth 20000 in
theorem gX2_inside_X2_work : GoodIn wsX2_inside (wsV RX2 124 RX2 yX2_work wsX2_work) := goodIn_app (goodIn_of _ (by decide +kernel)) ggX2_inside_X2_work
theorem dX2_inside_0 : decode cX2_inside 0 = .ok (.aload_n 0, 1) := by decide +kernel
theorem dX2_inside_1 : decode cX2_inside 1 = .ok (.iconst 0, 1) := by decide +kernel
theorem dX2_inside_2 : decode cX2_inside 2 = .ok (.putfield 66, 3) := by decide +kernel
theorem dX2_inside_5 : decode cX2_inside 5 = .ok (.iload_n 1, 1) := by decide +kernel
theorem dX2_inside_6 : decode cX2_inside 6 = .ok (.ifCond .lt 20, 3) := by decide +kernel
theorem dX2_inside_9 : decode cX2_inside 9 = .ok (.iload_n 1, 1) := by decide +kernel
theorem dX2_inside_10 : decode cX2_inside 10 = .ok (.aload_n 0, 1) := by decide +kernel
theorem dX2_inside_11 : decode cX2_inside 11 = .ok (.getfield 7, 3) := by decide +kernel
theorem dX2_inside_14 : decode cX2_inside 14 = .ok (.if_icmp .gt 12, 3) := by decide +kernel
theorem dX2_inside_17 : decode cX2_inside 17 = .ok (.iload_n 2, 1) := by decide +kernel
theorem dX2_inside_18 : decode cX2_inside 18 = .ok (.ifCond .lt 8, 3) := by decide +kernel
theorem dX2_inside_21 : decode cX2_inside 21 = .ok (.iload_n 2, 1) := by decide +kernel
theorem dX2_inside_22 : decode cX2_inside 22 = .ok (.iconst 2, 1) := by decide +kernel
theorem dX2_inside_23 : decode cX2_inside 23 = .ok (.if_icmp .le 9, 3) := by decide +kernel
theorem dX2_inside_26 : decode cX2_inside 26 = .ok (.aload_n 0, 1) := by decide +kernel
theorem dX2_inside_27 : decode cX2_inside 27 = .ok (.iconst 1, 1) := by decide +kernel
theorem dX2_inside_28 : decode cX2_inside 28 = .ok (.invokevirtual 120, 3) := by decide +kernel
theorem dX2_inside_31 : decode cX2_inside 31 = .ok (.ireturn, 1) := by decide +kernel
theorem dX2_inside_32 : decode cX2_inside 32 = .ok (.aload_n 0, 1) := by decide +kernel
theorem dX2_inside_33 : decode cX2_inside 33 = .ok (.invokevirtual 124, 3) := by decide +kernel
theorem dX2_inside_36 : decode cX2_inside 36 = .ok (.ifCond .ne 9, 3) := by decide +kernel
theorem dX2_inside_39 : decode cX2_inside 39 = .ok (.aload_n 0, 1) := by decide +kernel
theorem dX2_inside_40 : decode cX2_inside 40 = .ok (.iconst 2, 1) := by decide +kernel
theorem dX2_inside_41 : decode cX2_inside 41 = .ok (.invokevirtual 120, 3) := by decide +kernel
theorem dX2_inside_44 : decode cX2_inside 44 = .ok (.ireturn, 1) := by decide +kernel
theorem dX2_inside_45 : decode cX2_inside 45 = .ok (.aload_n 0, 1) := by decide +kernel
theorem dX2_inside_46 : decode cX2_inside 46 = .ok (.getfield 56, 3) := by decide +kernel
theorem dX2_inside_49 : decode cX2_inside 49 = .ok (.bipush 6, 2) := by decide +kernel
theorem dX2_inside_51 : decode cX2_inside 51 = .ok (.iload_n 1, 1) := by decide +kernel
theorem dX2_inside_52 : decode cX2_inside 52 = .ok (.imul, 1) := by decide +kernel
theorem dX2_inside_53 : decode cX2_inside 53 = .ok (.iconst 2, 1) := by decide +kernel
theorem dX2_inside_54 : decode cX2_inside 54 = .ok (.iload_n 2, 1) := by decide +kernel
theorem dX2_inside_55 : decode cX2_inside 55 = .ok (.imul, 1) := by decide +kernel
theorem dX2_inside_56 : decode cX2_inside 56 = .ok (.iadd, 1) := by decide +kernel
theorem dX2_inside_57 : decode cX2_inside 57 = .ok (.iload_n 3, 1) := by decide +kernel
theorem dX2_inside_58 : decode cX2_inside 58 = .ok (.ifCond .eq 7, 3) := by decide +kernel
theorem dX2_inside_61 : decode cX2_inside 61 = .ok (.iconst 1, 1) := by decide +kernel
theorem dX2_inside_62 : decode cX2_inside 62 = .ok (.goto 4, 3) := by decide +kernel
theorem dX2_inside_65 : decode cX2_inside 65 = .ok (.iconst 0, 1) := by decide +kernel
theorem dX2_inside_66 : decode cX2_inside 66 = .ok (.iadd, 1) := by decide +kernel
theorem dX2_inside_67 : decode cX2_inside 67 = .ok (.iaload, 1) := by decide +kernel
theorem dX2_inside_68 : decode cX2_inside 68 = .ok (.ireturn, 1) := by decide +kernel
set_option maxRecDepth 20000 in
theorem ggX2_above_X2_work : GoodIn wsX2_above wsX2_work := goodIn_r _ [8, 9, 2, 3, 10, 11, 12, 13, 14, 7, 15, 16, 17, 18, 19, 20, 21, 22, 23, 24, 25, 26, 27, 28, 29, 30, 31, 32, 33, 34, 35, 36, 37, 38, 39, 40, 41, 42, 43, 44, 45, 46, 47, 48, 49, 50, 51, 52, 53, 54, 55, 56, 57, 58, 59, 60, 61, 62, 63, 64, 65, 66, 67, 68, 69, 70, 71, 72, 73, 74, 75, 76, 77, 78, 79, 80, 81, 82, 83, 84, 85, 86, 87, 88, 89, 90] (by decide +kernel) (by decide +kernel)
set_option maxRecDepth 20000 in
theorem gX2_above_X2_work : GoodIn wsX2_above (wsV RX2 124 RX2 yX2_work wsX2_work) := goodIn_app (goodIn_of _ (by decide +kernel)) ggX2_above_X2_work
theorem dX2_above_0 : decode cX2_above 0 = .ok (.iload_n 1, 1) := by decide +kernel
theorem dX2_above_1 : decode cX2_above 1 = .ok (.ifCond .lt 16, 3) := by decide +kernel
theorem dX2_above_4 : decode cX2_above 4 = .ok (.iload_n 1, 1) := by decide +kernel
theorem dX2_above_5 : decode cX2_above 5 = .ok (.ldc 128, 2) := by decide +kernel
theorem dX2_above_7 : decode cX2_above 7 = .ok (.if_icmp .gt 10, 3) := by decide +kernel
theorem dX2_above_10 : decode cX2_above 10 = .ok (.aload_n 0, 1) := by decide +kernel
theorem dX2_above_11 : decode cX2_above 11 = .ok (.invokevirtual 124, 3) := by decide +kernel
theorem dX2_above_14 : decode cX2_above 14 = .ok (.ifCond .ne 5, 3) := by decide +kernel
theorem dX2_above_17 : decode cX2_above 17 = .ok (.iconst (-1), 1) := by decide +kernel
theorem dX2_above_18 : decode cX2_above 18 = .ok (.ireturn, 1) := by decide +kernel
theorem dX2_above_19 : decode cX2_above 19 = .ok (.iconst 0, 1) := by decide +kernel
theorem dX2_above_20 : decode cX2_above 20 = .ok (.istore_n 3, 1) := by decide +kernel
theorem dX2_above_21 : decode cX2_above 21 = .ok (.iload_n 3, 1) := by decide +kernel
theorem dX2_above_22 : decode cX2_above 22 = .ok (.aload_n 0, 1) := by decide +kernel
theorem dX2_above_23 : decode cX2_above 23 = .ok (.getfield 7, 3) := by decide +kernel
theorem dX2_above_26 : decode cX2_above 26 = .ok (.if_icmp .gt 26, 3) := by decide +kernel
theorem dX2_above_29 : decode cX2_above 29 = .ok (.aload_n 0, 1) := by decide +kernel
theorem dX2_above_30 : decode cX2_above 30 = .ok (.getfield 56, 3) := by decide +kernel
theorem dX2_above_33 : decode cX2_above 33 = .ok (.bipush 6, 2) := by decide +kernel
theorem dX2_above_35 : decode cX2_above 35 = .ok (.iload_n 3, 1) := by decide +kernel
theorem dX2_above_36 : decode cX2_above 36 = .ok (.imul, 1) := by decide +kernel
theorem dX2_above_37 : decode cX2_above 37 = .ok (.iload_n 2, 1) := by decide +kernel
theorem dX2_above_38 : decode cX2_above 38 = .ok (.iadd, 1) := by decide +kernel
theorem dX2_above_39 : decode cX2_above 39 = .ok (.iaload, 1) := by decide +kernel
theorem dX2_above_40 : decode cX2_above 40 = .ok (.iload_n 1, 1) := by decide +kernel
theorem dX2_above_41 : decode cX2_above 41 = .ok (.if_icmp .le 5, 3) := by decide +kernel
theorem dX2_above_44 : decode cX2_above 44 = .ok (.iload_n 3, 1) := by decide +kernel
theorem dX2_above_45 : decode cX2_above 45 = .ok (.ireturn, 1) := by decide +kernel
theorem dX2_above_46 : decode cX2_above 46 = .ok (.iinc 3 1, 3) := by decide +kernel
theorem dX2_above_49 : decode cX2_above 49 = .ok (.goto (-28), 3) := by decide +kernel
theorem dX2_above_52 : decode cX2_above 52 = .ok (.iconst (-1), 1) := by decide +kernel
theorem dX2_above_53 : decode cX2_above 53 = .ok (.ireturn, 1) := by decide +kernel
set_option maxRecDepth 20000 in
theorem ggX2_could_X2_above : GoodIn wsX2_could wsX2_above := goodIn_r _ [6, 7, 8, 9, 10, 11, 12, 5, 13, 14, 15, 16, 17, 18, 19, 20, 21, 22, 23, 24, 25, 26, 27, 28, 29, 30, 31, 32, 33, 34, 35, 36, 37, 38, 39, 40, 41, 42, 43, 44, 45, 46, 47, 48, 49, 50, 51, 52, 53, 54, 55, 56, 57, 58, 59, 60, 61, 62, 63, 64, 65, 66, 67, 68, 69, 70, 71, 72, 73, 74, 75, 76, 77, 78, 79, 80, 81, 82, 83, 84, 85, 86, 87, 88, 89, 90, 91, 92, 93, 94, 95] (by decide +kernel) (by decide +kernel)
set_option maxRecDepth 20000 in
theorem gX2_could_X2_above : GoodIn wsX2_could (wsV RX2 129 RX2 yX2_above wsX2_above) := goodIn_app (goodIn_of _ (by decide +kernel)) ggX2_could_X2_above
theorem dX2_could_0 : decode cX2_could 0 = .ok (.aload_n 0, 1) := by decide +kernel
theorem dX2_could_1 : decode cX2_could 1 = .ok (.iconst 0, 1) := by decide +kernel
theorem dX2_could_2 : decode cX2_could 2 = .ok (.putfield 66, 3) := by decide +kernel
theorem dX2_could_5 : decode cX2_could 5 = .ok (.aload_n 0, 1) := by decide +kernel
theorem dX2_could_6 : decode cX2_could 6 = .ok (.iload_n 1, 1) := by decide +kernel
theorem dX2_could_7 : decode cX2_could 7 = .ok (.iconst 5, 1) := by decide +kernel
theorem dX2_could_8 : decode cX2_could 8 = .ok (.invokevirtual 129, 3) := by decide +kernel
theorem dX2_could_11 : decode cX2_could 11 = .ok (.ireturn, 1) := by decide +kernel
set_option maxRecDepth 20000 in
theorem ggX2_surely_X2_above : GoodIn wsX2_surely wsX2_above := goodIn_r _ [6, 7, 8, 9, 10, 11, 12, 5, 13, 14, 15, 16, 17, 18, 19, 20, 21, 22, 23, 24, 25, 26, 27, 28, 29, 30, 31, 32, 33, 34, 35, 36, 37, 38, 39, 40, 41, 42, 43, 44, 45, 46, 47, 48, 49, 50, 51, 52, 53, 54, 55, 56, 57, 58, 59, 60, 61, 62, 63, 64, 65, 66, 67, 68, 69, 70, 71, 72, 73, 74, 75, 76, 77, 78, 79, 80, 81, 82, 83, 84, 85, 86, 87, 88, 89, 90, 91, 92, 93, 94, 95] (by decide +kernel) (by decide +kernel)
set_option maxRecDepth 20000 in
theorem gX2_surely_X2_above : GoodIn wsX2_surely (wsV RX2 129 RX2 yX2_above wsX2_above) := goodIn_app (goodIn_of _ (by decide +kernel)) ggX2_surely_X2_above
theorem dX2_surely_0 : decode cX2_surely 0 = .ok (.aload_n 0, 1) := by decide +kernel
theorem dX2_surely_1 : decode cX2_surely 1 = .ok (.iconst 0, 1) := by decide +kernel
theorem dX2_surely_2 : decode cX2_surely 2 = .ok (.putfield 66, 3) := by decide +kernel
theorem dX2_surely_5 : decode cX2_surely 5 = .ok (.aload_n 0, 1) := by decide +kernel
theorem dX2_surely_6 : decode cX2_surely 6 = .ok (.iload_n 1, 1) := by decide +kernel
theorem dX2_surely_7 : decode cX2_surely 7 = .ok (.iconst 4, 1) := by decide +kernel
theorem dX2_surely_8 : decode cX2_surely 8 = .ok (.invokevirtual 129, 3) := by decide +kernel
theorem dX2_surely_11 : decode cX2_surely 11 = .ok (.ireturn, 1) := by decide +kernel
set_option maxRecDepth 20000 in
theorem ggX2_through_X2_isRow : GoodIn wsX2_through wsX2_isRow := goodIn_r _ [10, 11, 12, 78, 79, 80, 81, 82, 83, 84, 85, 86, 87, 88, 89, 90, 91, 92, 93, 94, 95, 96, 97, 98] (by decide +kernel) (by decide +kernel)
set_option maxRecDepth 20000 in
theorem gX2_through_X2_isRow : GoodIn wsX2_through (wsV RX2 75 RX2 yX2_isRow wsX2_isRow) := goodIn_app (goodIn_of _ (by decide +kernel)) ggX2_through_X2_isRow
set_option maxRecDepth 20000 in
theorem ggX2_through_X2_fails : GoodIn wsX2_through wsX2_fails := goodIn_r _ [16, 1, 78, 79, 80, 81, 82, 83, 84, 85, 86, 87, 88, 89, 90, 91, 92, 93, 94, 95, 96, 97, 98] (by decide +kernel) (by decide +kernel)
set_option maxRecDepth 20000 in
theorem gX2_through_X2_fails : GoodIn wsX2_through (wsV RX2 120 RX2 yX2_fails wsX2_fails) := goodIn_app (goodIn_of _ (by decide +kernel)) ggX2_through_X2_fails
set_option maxRecDepth 20000 in
theorem ggX2_through_X2_work : GoodIn wsX2_through wsX2_work := goodIn_r _ [20, 21, 12, 22, 3, 2, 23, 24, 25, 9, 26, 27, 28, 4, 29, 30, 31, 32, 33, 34, 35, 36, 37, 38, 39, 40, 41, 42, 43, 44, 45, 46, 47, 48, 49, 50, 51, 11, 5, 52, 53, 54, 55, 56, 57, 58, 59, 60, 61, 62, 63, 64, 65, 66, 67, 68, 69, 70, 71, 72, 73, 74, 75, 76, 77, 78, 79, 80, 81, 82, 83, 84, 85, 86, 87, 88, 89, 90, 91, 92, 93, 94, 95, 96, 97, 98] (by decide +kernel) (by decide +kernel)
set_option maxRecDepth 20000 in
theorem gX2_through_X2_work : GoodIn wsX2_through (wsV RX2 124 RX2 yX2_work wsX2_work) := goodIn_app (goodIn_of _ (by decide +kernel)) ggX2_through_X2_work
set_option maxRecDepth 20000 in
theorem ggX2_through_X2_moves : GoodIn wsX2_through wsX2_moves := goodIn_r _ [51, 4, 11, 5, 52, 53, 54, 9, 55, 56, 57, 58, 59, 60, 61, 62, 21, 38, 39, 40, 63, 64, 65, 66, 67, 68, 69, 70, 71, 72, 78, 79, 80, 81, 82, 83, 84, 85, 86, 87, 88, 89, 90, 91, 92, 93, 94, 95, 96, 97, 98] (by decide +kernel) (by decide +kernel)
end
section
set_option maxRecDepth 20000 in
theorem gX2_through_X2_moves : GoodIn wsX2_through (wsV RX2 108 RX2 yX2_moves wsX2_moves) := goodIn_app (goodIn_of _ (by decide +kernel)) ggX2_through_X2_moves
set_option maxRecDepth 20000 in
theorem ggX2_through_X2_netLow : GoodIn wsX2_through wsX2_netLow := goodIn_r _ [55, 56, 57, 58, 59, 60, 9, 61, 62, 21, 38, 39, 40, 63, 64, 65, 66, 67, 68, 78, 79, 80, 81, 82, 83, 84, 85, 86, 87, 88, 89, 90, 91, 92, 93, 94, 95, 96, 97, 98] (by decide +kernel) (by decide +kernel)
set_option maxRecDepth 20000 in
theorem gX2_through_X2_netLow : GoodIn wsX2_through (wsV RX2 92 RX2 yX2_netLow wsX2_netLow) := goodIn_app (goodIn_of _ (by decide +kernel)) ggX2_through_X2_netLow
set_option maxRecDepth 20000 in
theorem ggX2_through_X2_netHigh : GoodIn wsX2_through wsX2_netHigh := goodIn_r _ [72, 56, 57, 63, 64, 65, 9, 66, 67, 68, 21, 58, 59, 60, 61, 62, 38, 39, 40, 78, 79, 80, 81, 82, 83, 84, 85, 86, 87, 88, 89, 90, 91, 92, 93, 94, 95, 96, 97, 98] (by decide +kernel) (by decide +kernel)
set_option maxRecDepth 20000 in
theorem gX2_through_X2_netHigh : GoodIn wsX2_through (wsV RX2 95 RX2 yX2_netHigh wsX2_netHigh) := goodIn_app (goodIn_of _ (by decide +kernel)) ggX2_through_X2_netHigh
set_option maxRecDepth 20000 in
theorem ggX2_through_X2_greater : GoodIn wsX2_through wsX2_greater := goodIn_r _ [40] (by decide +kernel) (by decide +kernel)
set_option maxRecDepth 20000 in
theorem gX2_through_X2_greater : GoodIn wsX2_through (va_wsS RX2 82 yX2_greater wsX2_greater) := goodIn_app (goodIn_of _ (by decide +kernel)) ggX2_through_X2_greater
set_option maxRecDepth 20000 in
theorem ggX2_through_X2_lesser : GoodIn wsX2_through wsX2_lesser := goodIn_r _ [43] (by decide +kernel) (by decide +kernel)
set_option maxRecDepth 20000 in
theorem gX2_through_X2_lesser : GoodIn wsX2_through (va_wsS RX2 98 yX2_lesser wsX2_lesser) := goodIn_app (goodIn_of _ (by decide +kernel)) ggX2_through_X2_lesser
theorem dX2_through_0 : decode cX2_through 0 = .ok (.aload_n 0, 1) := by decide +kernel
theorem dX2_through_1 : decode cX2_through 1 = .ok (.iconst 0, 1) := by decide +kernel
theorem dX2_through_2 : decode cX2_through 2 = .ok (.putfield 66, 3) := by decide +kernel
theorem dX2_through_5 : decode cX2_through 5 = .ok (.aload_n 0, 1) := by decide +kernel
theorem dX2_through_6 : decode cX2_through 6 = .ok (.iload_n 1, 1) := by decide +kernel
theorem dX2_through_7 : decode cX2_through 7 = .ok (.iload_n 2, 1) := by decide +kernel
theorem dX2_through_8 : decode cX2_through 8 = .ok (.invokevirtual 75, 3) := by decide +kernel
theorem dX2_through_11 : decode cX2_through 11 = .ok (.ifCond .ne 9, 3) := by decide +kernel
theorem dX2_through_14 : decode cX2_through 14 = .ok (.aload_n 0, 1) := by decide +kernel
theorem dX2_through_15 : decode cX2_through 15 = .ok (.iconst 1, 1) := by decide +kernel
theorem dX2_through_16 : decode cX2_through 16 = .ok (.invokevirtual 120, 3) := by decide +kernel
theorem dX2_through_19 : decode cX2_through 19 = .ok (.ireturn, 1) := by decide +kernel
theorem dX2_through_20 : decode cX2_through 20 = .ok (.aload_n 0, 1) := by decide +kernel
theorem dX2_through_21 : decode cX2_through 21 = .ok (.invokevirtual 124, 3) := by decide +kernel
theorem dX2_through_24 : decode cX2_through 24 = .ok (.ifCond .ne 9, 3) := by decide +kernel
theorem dX2_through_27 : decode cX2_through 27 = .ok (.aload_n 0, 1) := by decide +kernel
theorem dX2_through_28 : decode cX2_through 28 = .ok (.iconst 2, 1) := by decide +kernel
theorem dX2_through_29 : decode cX2_through 29 = .ok (.invokevirtual 120, 3) := by decide +kernel
theorem dX2_through_32 : decode cX2_through 32 = .ok (.ireturn, 1) := by decide +kernel
theorem dX2_through_33 : decode cX2_through 33 = .ok (.aload_n 0, 1) := by decide +kernel
theorem dX2_through_34 : decode cX2_through 34 = .ok (.iload_n 2, 1) := by decide +kernel
theorem dX2_through_35 : decode cX2_through 35 = .ok (.iload_n 1, 1) := by decide +kernel
theorem dX2_through_36 : decode cX2_through 36 = .ok (.invokevirtual 108, 3) := by decide +kernel
theorem dX2_through_39 : decode cX2_through 39 = .ok (.bipush 6, 2) := by decide +kernel
theorem dX2_through_41 : decode cX2_through 41 = .ok (.iload_n 2, 1) := by decide +kernel
theorem dX2_through_42 : decode cX2_through 42 = .ok (.imul, 1) := by decide +kernel
theorem dX2_through_43 : decode cX2_through 43 = .ok (.istore 4, 2) := by decide +kernel
theorem dX2_through_45 : decode cX2_through 45 = .ok (.aload_n 0, 1) := by decide +kernel
theorem dX2_through_46 : decode cX2_through 46 = .ok (.getfield 53, 3) := by decide +kernel
theorem dX2_through_49 : decode cX2_through 49 = .ok (.iload 4, 2) := by decide +kernel
theorem dX2_through_51 : decode cX2_through 51 = .ok (.bipush 6, 2) := by decide +kernel
theorem dX2_through_53 : decode cX2_through 53 = .ok (.iadd, 1) := by decide +kernel
theorem dX2_through_54 : decode cX2_through 54 = .ok (.iaload, 1) := by decide +kernel
theorem dX2_through_55 : decode cX2_through 55 = .ok (.aload_n 0, 1) := by decide +kernel
theorem dX2_through_56 : decode cX2_through 56 = .ok (.getfield 50, 3) := by decide +kernel
theorem dX2_through_59 : decode cX2_through 59 = .ok (.iload 4, 2) := by decide +kernel
theorem dX2_through_61 : decode cX2_through 61 = .ok (.iconst 1, 1) := by decide +kernel
theorem dX2_through_62 : decode cX2_through 62 = .ok (.iadd, 1) := by decide +kernel
theorem dX2_through_63 : decode cX2_through 63 = .ok (.iaload, 1) := by decide +kernel
theorem dX2_through_64 : decode cX2_through 64 = .ok (.isub, 1) := by decide +kernel
theorem dX2_through_65 : decode cX2_through 65 = .ok (.aload_n 0, 1) := by decide +kernel
theorem dX2_through_66 : decode cX2_through 66 = .ok (.getfield 59, 3) := by decide +kernel
theorem dX2_through_69 : decode cX2_through 69 = .ok (.iconst 1, 1) := by decide +kernel
theorem dX2_through_70 : decode cX2_through 70 = .ok (.iaload, 1) := by decide +kernel
theorem dX2_through_71 : decode cX2_through 71 = .ok (.isub, 1) := by decide +kernel
theorem dX2_through_72 : decode cX2_through 72 = .ok (.aload_n 0, 1) := by decide +kernel
theorem dX2_through_73 : decode cX2_through 73 = .ok (.getfield 59, 3) := by decide +kernel
theorem dX2_through_76 : decode cX2_through 76 = .ok (.iconst 4, 1) := by decide +kernel
theorem dX2_through_77 : decode cX2_through 77 = .ok (.iaload, 1) := by decide +kernel
theorem dX2_through_78 : decode cX2_through 78 = .ok (.iadd, 1) := by decide +kernel
theorem dX2_through_79 : decode cX2_through 79 = .ok (.istore 5, 2) := by decide +kernel
theorem dX2_through_81 : decode cX2_through 81 = .ok (.aload_n 0, 1) := by decide +kernel
theorem dX2_through_82 : decode cX2_through 82 = .ok (.getfield 53, 3) := by decide +kernel
theorem dX2_through_85 : decode cX2_through 85 = .ok (.iload 4, 2) := by decide +kernel
theorem dX2_through_87 : decode cX2_through 87 = .ok (.bipush 7, 2) := by decide +kernel
theorem dX2_through_89 : decode cX2_through 89 = .ok (.iadd, 1) := by decide +kernel
theorem dX2_through_90 : decode cX2_through 90 = .ok (.iaload, 1) := by decide +kernel
theorem dX2_through_91 : decode cX2_through 91 = .ok (.aload_n 0, 1) := by decide +kernel
theorem dX2_through_92 : decode cX2_through 92 = .ok (.getfield 50, 3) := by decide +kernel
theorem dX2_through_95 : decode cX2_through 95 = .ok (.iload 4, 2) := by decide +kernel
theorem dX2_through_97 : decode cX2_through 97 = .ok (.iaload, 1) := by decide +kernel
theorem dX2_through_98 : decode cX2_through 98 = .ok (.isub, 1) := by decide +kernel
theorem dX2_through_99 : decode cX2_through 99 = .ok (.aload_n 0, 1) := by decide +kernel
theorem dX2_through_100 : decode cX2_through 100 = .ok (.getfield 59, 3) := by decide +kernel
theorem dX2_through_103 : decode cX2_through 103 = .ok (.iconst 0, 1) := by decide +kernel
theorem dX2_through_104 : decode cX2_through 104 = .ok (.iaload, 1) := by decide +kernel
theorem dX2_through_105 : decode cX2_through 105 = .ok (.isub, 1) := by decide +kernel
theorem dX2_through_106 : decode cX2_through 106 = .ok (.aload_n 0, 1) := by decide +kernel
theorem dX2_through_107 : decode cX2_through 107 = .ok (.getfield 59, 3) := by decide +kernel
theorem dX2_through_110 : decode cX2_through 110 = .ok (.iconst 5, 1) := by decide +kernel
theorem dX2_through_111 : decode cX2_through 111 = .ok (.iaload, 1) := by decide +kernel
theorem dX2_through_112 : decode cX2_through 112 = .ok (.iadd, 1) := by decide +kernel
theorem dX2_through_113 : decode cX2_through 113 = .ok (.istore 6, 2) := by decide +kernel
theorem dX2_through_115 : decode cX2_through 115 = .ok (.aload_n 0, 1) := by decide +kernel
theorem dX2_through_116 : decode cX2_through 116 = .ok (.getfield 53, 3) := by decide +kernel
theorem dX2_through_119 : decode cX2_through 119 = .ok (.iload 4, 2) := by decide +kernel
theorem dX2_through_121 : decode cX2_through 121 = .ok (.bipush 8, 2) := by decide +kernel
theorem dX2_through_123 : decode cX2_through 123 = .ok (.iadd, 1) := by decide +kernel
theorem dX2_through_124 : decode cX2_through 124 = .ok (.iaload, 1) := by decide +kernel
theorem dX2_through_125 : decode cX2_through 125 = .ok (.aload_n 0, 1) := by decide +kernel
theorem dX2_through_126 : decode cX2_through 126 = .ok (.getfield 50, 3) := by decide +kernel
theorem dX2_through_129 : decode cX2_through 129 = .ok (.iload 4, 2) := by decide +kernel
theorem dX2_through_131 : decode cX2_through 131 = .ok (.iconst 3, 1) := by decide +kernel
theorem dX2_through_132 : decode cX2_through 132 = .ok (.iadd, 1) := by decide +kernel
theorem dX2_through_133 : decode cX2_through 133 = .ok (.iaload, 1) := by decide +kernel
theorem dX2_through_134 : decode cX2_through 134 = .ok (.isub, 1) := by decide +kernel
theorem dX2_through_135 : decode cX2_through 135 = .ok (.aload_n 0, 1) := by decide +kernel
theorem dX2_through_136 : decode cX2_through 136 = .ok (.getfield 59, 3) := by decide +kernel
theorem dX2_through_139 : decode cX2_through 139 = .ok (.iconst 3, 1) := by decide +kernel
theorem dX2_through_140 : decode cX2_through 140 = .ok (.iaload, 1) := by decide +kernel
theorem dX2_through_141 : decode cX2_through 141 = .ok (.isub, 1) := by decide +kernel
theorem dX2_through_142 : decode cX2_through 142 = .ok (.aload_n 0, 1) := by decide +kernel
theorem dX2_through_143 : decode cX2_through 143 = .ok (.getfield 59, 3) := by decide +kernel
theorem dX2_through_146 : decode cX2_through 146 = .ok (.iconst 5, 1) := by decide +kernel
theorem dX2_through_147 : decode cX2_through 147 = .ok (.iaload, 1) := by decide +kernel
theorem dX2_through_148 : decode cX2_through 148 = .ok (.isub, 1) := by decide +kernel
theorem dX2_through_149 : decode cX2_through 149 = .ok (.istore 7, 2) := by decide +kernel
theorem dX2_through_151 : decode cX2_through 151 = .ok (.aload_n 0, 1) := by decide +kernel
theorem dX2_through_152 : decode cX2_through 152 = .ok (.getfield 53, 3) := by decide +kernel
theorem dX2_through_155 : decode cX2_through 155 = .ok (.iload 4, 2) := by decide +kernel
theorem dX2_through_157 : decode cX2_through 157 = .ok (.bipush 9, 2) := by decide +kernel
theorem dX2_through_159 : decode cX2_through 159 = .ok (.iadd, 1) := by decide +kernel
theorem dX2_through_160 : decode cX2_through 160 = .ok (.iaload, 1) := by decide +kernel
theorem dX2_through_161 : decode cX2_through 161 = .ok (.aload_n 0, 1) := by decide +kernel
theorem dX2_through_162 : decode cX2_through 162 = .ok (.getfield 50, 3) := by decide +kernel
theorem dX2_through_165 : decode cX2_through 165 = .ok (.iload 4, 2) := by decide +kernel
theorem dX2_through_167 : decode cX2_through 167 = .ok (.iconst 2, 1) := by decide +kernel
theorem dX2_through_168 : decode cX2_through 168 = .ok (.iadd, 1) := by decide +kernel
theorem dX2_through_169 : decode cX2_through 169 = .ok (.iaload, 1) := by decide +kernel
theorem dX2_through_170 : decode cX2_through 170 = .ok (.isub, 1) := by decide +kernel
theorem dX2_through_171 : decode cX2_through 171 = .ok (.aload_n 0, 1) := by decide +kernel
theorem dX2_through_172 : decode cX2_through 172 = .ok (.getfield 59, 3) := by decide +kernel
theorem dX2_through_175 : decode cX2_through 175 = .ok (.iconst 2, 1) := by decide +kernel
theorem dX2_through_176 : decode cX2_through 176 = .ok (.iaload, 1) := by decide +kernel
theorem dX2_through_177 : decode cX2_through 177 = .ok (.isub, 1) := by decide +kernel
theorem dX2_through_178 : decode cX2_through 178 = .ok (.aload_n 0, 1) := by decide +kernel
theorem dX2_through_179 : decode cX2_through 179 = .ok (.getfield 59, 3) := by decide +kernel
theorem dX2_through_182 : decode cX2_through 182 = .ok (.iconst 4, 1) := by decide +kernel
theorem dX2_through_183 : decode cX2_through 183 = .ok (.iaload, 1) := by decide +kernel
theorem dX2_through_184 : decode cX2_through 184 = .ok (.isub, 1) := by decide +kernel
theorem dX2_through_185 : decode cX2_through 185 = .ok (.istore 8, 2) := by decide +kernel
theorem dX2_through_187 : decode cX2_through 187 = .ok (.aload_n 0, 1) := by decide +kernel
theorem dX2_through_188 : decode cX2_through 188 = .ok (.getfield 53, 3) := by decide +kernel
theorem dX2_through_191 : decode cX2_through 191 = .ok (.iload 4, 2) := by decide +kernel
theorem dX2_through_193 : decode cX2_through 193 = .ok (.bipush 10, 2) := by decide +kernel
theorem dX2_through_195 : decode cX2_through 195 = .ok (.iadd, 1) := by decide +kernel
theorem dX2_through_196 : decode cX2_through 196 = .ok (.iaload, 1) := by decide +kernel
theorem dX2_through_197 : decode cX2_through 197 = .ok (.aload_n 0, 1) := by decide +kernel
theorem dX2_through_198 : decode cX2_through 198 = .ok (.getfield 50, 3) := by decide +kernel
theorem dX2_through_201 : decode cX2_through 201 = .ok (.iload 4, 2) := by decide +kernel
theorem dX2_through_203 : decode cX2_through 203 = .ok (.iconst 5, 1) := by decide +kernel
theorem dX2_through_204 : decode cX2_through 204 = .ok (.iadd, 1) := by decide +kernel
theorem dX2_through_205 : decode cX2_through 205 = .ok (.iaload, 1) := by decide +kernel
theorem dX2_through_206 : decode cX2_through 206 = .ok (.isub, 1) := by decide +kernel
theorem dX2_through_207 : decode cX2_through 207 = .ok (.aload_n 0, 1) := by decide +kernel
theorem dX2_through_208 : decode cX2_through 208 = .ok (.getfield 59, 3) := by decide +kernel
theorem dX2_through_211 : decode cX2_through 211 = .ok (.iconst 1, 1) := by decide +kernel
theorem dX2_through_212 : decode cX2_through 212 = .ok (.iaload, 1) := by decide +kernel
theorem dX2_through_213 : decode cX2_through 213 = .ok (.isub, 1) := by decide +kernel
theorem dX2_through_214 : decode cX2_through 214 = .ok (.aload_n 0, 1) := by decide +kernel
theorem dX2_through_215 : decode cX2_through 215 = .ok (.getfield 59, 3) := by decide +kernel
theorem dX2_through_218 : decode cX2_through 218 = .ok (.iconst 3, 1) := by decide +kernel
theorem dX2_through_219 : decode cX2_through 219 = .ok (.iaload, 1) := by decide +kernel
theorem dX2_through_220 : decode cX2_through 220 = .ok (.isub, 1) := by decide +kernel
theorem dX2_through_221 : decode cX2_through 221 = .ok (.istore 9, 2) := by decide +kernel
theorem dX2_through_223 : decode cX2_through 223 = .ok (.aload_n 0, 1) := by decide +kernel
theorem dX2_through_224 : decode cX2_through 224 = .ok (.getfield 53, 3) := by decide +kernel
theorem dX2_through_227 : decode cX2_through 227 = .ok (.iload 4, 2) := by decide +kernel
theorem dX2_through_229 : decode cX2_through 229 = .ok (.bipush 11, 2) := by decide +kernel
theorem dX2_through_231 : decode cX2_through 231 = .ok (.iadd, 1) := by decide +kernel
theorem dX2_through_232 : decode cX2_through 232 = .ok (.iaload, 1) := by decide +kernel
theorem dX2_through_233 : decode cX2_through 233 = .ok (.aload_n 0, 1) := by decide +kernel
theorem dX2_through_234 : decode cX2_through 234 = .ok (.getfield 50, 3) := by decide +kernel
theorem dX2_through_237 : decode cX2_through 237 = .ok (.iload 4, 2) := by decide +kernel
theorem dX2_through_239 : decode cX2_through 239 = .ok (.iconst 4, 1) := by decide +kernel
theorem dX2_through_240 : decode cX2_through 240 = .ok (.iadd, 1) := by decide +kernel
theorem dX2_through_241 : decode cX2_through 241 = .ok (.iaload, 1) := by decide +kernel
theorem dX2_through_242 : decode cX2_through 242 = .ok (.isub, 1) := by decide +kernel
theorem dX2_through_243 : decode cX2_through 243 = .ok (.aload_n 0, 1) := by decide +kernel
theorem dX2_through_244 : decode cX2_through 244 = .ok (.getfield 59, 3) := by decide +kernel
theorem dX2_through_247 : decode cX2_through 247 = .ok (.iconst 0, 1) := by decide +kernel
theorem dX2_through_248 : decode cX2_through 248 = .ok (.iaload, 1) := by decide +kernel
theorem dX2_through_249 : decode cX2_through 249 = .ok (.isub, 1) := by decide +kernel
theorem dX2_through_250 : decode cX2_through 250 = .ok (.aload_n 0, 1) := by decide +kernel
theorem dX2_through_251 : decode cX2_through 251 = .ok (.getfield 59, 3) := by decide +kernel
theorem dX2_through_254 : decode cX2_through 254 = .ok (.iconst 2, 1) := by decide +kernel
theorem dX2_through_255 : decode cX2_through 255 = .ok (.iaload, 1) := by decide +kernel
theorem dX2_through_256 : decode cX2_through 256 = .ok (.isub, 1) := by decide +kernel
theorem dX2_through_257 : decode cX2_through 257 = .ok (.istore 10, 2) := by decide +kernel
theorem dX2_through_259 : decode cX2_through 259 = .ok (.aload_n 0, 1) := by decide +kernel
theorem dX2_through_260 : decode cX2_through 260 = .ok (.iload_n 1, 1) := by decide +kernel
theorem dX2_through_261 : decode cX2_through 261 = .ok (.iload_n 2, 1) := by decide +kernel
theorem dX2_through_262 : decode cX2_through 262 = .ok (.invokevirtual 92, 3) := by decide +kernel
theorem dX2_through_265 : decode cX2_through 265 = .ok (.istore 11, 2) := by decide +kernel
theorem dX2_through_267 : decode cX2_through 267 = .ok (.aload_n 0, 1) := by decide +kernel
theorem dX2_through_268 : decode cX2_through 268 = .ok (.iload_n 1, 1) := by decide +kernel
theorem dX2_through_269 : decode cX2_through 269 = .ok (.iload_n 2, 1) := by decide +kernel
theorem dX2_through_270 : decode cX2_through 270 = .ok (.invokevirtual 95, 3) := by decide +kernel
theorem dX2_through_273 : decode cX2_through 273 = .ok (.istore 12, 2) := by decide +kernel
theorem dX2_through_275 : decode cX2_through 275 = .ok (.aload_n 0, 1) := by decide +kernel
theorem dX2_through_276 : decode cX2_through 276 = .ok (.getfield 13, 3) := by decide +kernel
theorem dX2_through_279 : decode cX2_through 279 = .ok (.iload_n 1, 1) := by decide +kernel
theorem dX2_through_280 : decode cX2_through 280 = .ok (.iaload, 1) := by decide +kernel
theorem dX2_through_281 : decode cX2_through 281 = .ok (.ifCond .ne 34, 3) := by decide +kernel
theorem dX2_through_284 : decode cX2_through 284 = .ok (.iload 11, 2) := by decide +kernel
theorem dX2_through_286 : decode cX2_through 286 = .ok (.iload 5, 2) := by decide +kernel
theorem dX2_through_288 : decode cX2_through 288 = .ok (.iload 9, 2) := by decide +kernel
theorem dX2_through_290 : decode cX2_through 290 = .ok (.invokestatic 82, 3) := by decide +kernel
theorem dX2_through_293 : decode cX2_through 293 = .ok (.invokestatic 82, 3) := by decide +kernel
theorem dX2_through_296 : decode cX2_through 296 = .ok (.istore 11, 2) := by decide +kernel
theorem dX2_through_298 : decode cX2_through 298 = .ok (.iload 12, 2) := by decide +kernel
theorem dX2_through_300 : decode cX2_through 300 = .ok (.iload 6, 2) := by decide +kernel
theorem dX2_through_302 : decode cX2_through 302 = .ok (.iload 10, 2) := by decide +kernel
theorem dX2_through_304 : decode cX2_through 304 = .ok (.invokestatic 98, 3) := by decide +kernel
theorem dX2_through_307 : decode cX2_through 307 = .ok (.invokestatic 98, 3) := by decide +kernel
theorem dX2_through_310 : decode cX2_through 310 = .ok (.istore 12, 2) := by decide +kernel
theorem dX2_through_312 : decode cX2_through 312 = .ok (.goto 74, 3) := by decide +kernel
theorem dX2_through_315 : decode cX2_through 315 = .ok (.aload_n 0, 1) := by decide +kernel
theorem dX2_through_316 : decode cX2_through 316 = .ok (.getfield 13, 3) := by decide +kernel
theorem dX2_through_319 : decode cX2_through 319 = .ok (.iload_n 1, 1) := by decide +kernel
theorem dX2_through_320 : decode cX2_through 320 = .ok (.iaload, 1) := by decide +kernel
theorem dX2_through_321 : decode cX2_through 321 = .ok (.iconst 1, 1) := by decide +kernel
theorem dX2_through_322 : decode cX2_through 322 = .ok (.if_icmp .ne 34, 3) := by decide +kernel
theorem dX2_through_325 : decode cX2_through 325 = .ok (.iload 11, 2) := by decide +kernel
theorem dX2_through_327 : decode cX2_through 327 = .ok (.iload 7, 2) := by decide +kernel
theorem dX2_through_329 : decode cX2_through 329 = .ok (.iload 9, 2) := by decide +kernel
theorem dX2_through_331 : decode cX2_through 331 = .ok (.invokestatic 82, 3) := by decide +kernel
theorem dX2_through_334 : decode cX2_through 334 = .ok (.invokestatic 82, 3) := by decide +kernel
theorem dX2_through_337 : decode cX2_through 337 = .ok (.istore 11, 2) := by decide +kernel
theorem dX2_through_339 : decode cX2_through 339 = .ok (.iload 12, 2) := by decide +kernel
theorem dX2_through_341 : decode cX2_through 341 = .ok (.iload 8, 2) := by decide +kernel
theorem dX2_through_343 : decode cX2_through 343 = .ok (.iload 10, 2) := by decide +kernel
theorem dX2_through_345 : decode cX2_through 345 = .ok (.invokestatic 98, 3) := by decide +kernel
theorem dX2_through_348 : decode cX2_through 348 = .ok (.invokestatic 98, 3) := by decide +kernel
theorem dX2_through_351 : decode cX2_through 351 = .ok (.istore 12, 2) := by decide +kernel
theorem dX2_through_353 : decode cX2_through 353 = .ok (.goto 33, 3) := by decide +kernel
theorem dX2_through_356 : decode cX2_through 356 = .ok (.iload 11, 2) := by decide +kernel
theorem dX2_through_358 : decode cX2_through 358 = .ok (.iload 7, 2) := by decide +kernel
theorem dX2_through_360 : decode cX2_through 360 = .ok (.iload 6, 2) := by decide +kernel
theorem dX2_through_362 : decode cX2_through 362 = .ok (.ineg, 1) := by decide +kernel
theorem dX2_through_363 : decode cX2_through 363 = .ok (.invokestatic 82, 3) := by decide +kernel
theorem dX2_through_366 : decode cX2_through 366 = .ok (.invokestatic 82, 3) := by decide +kernel
theorem dX2_through_369 : decode cX2_through 369 = .ok (.istore 11, 2) := by decide +kernel
theorem dX2_through_371 : decode cX2_through 371 = .ok (.iload 12, 2) := by decide +kernel
theorem dX2_through_373 : decode cX2_through 373 = .ok (.iload 8, 2) := by decide +kernel
theorem dX2_through_375 : decode cX2_through 375 = .ok (.iload 5, 2) := by decide +kernel
theorem dX2_through_377 : decode cX2_through 377 = .ok (.ineg, 1) := by decide +kernel
theorem dX2_through_378 : decode cX2_through 378 = .ok (.invokestatic 98, 3) := by decide +kernel
theorem dX2_through_381 : decode cX2_through 381 = .ok (.invokestatic 98, 3) := by decide +kernel
theorem dX2_through_384 : decode cX2_through 384 = .ok (.istore 12, 2) := by decide +kernel
theorem dX2_through_386 : decode cX2_through 386 = .ok (.iload_n 3, 1) := by decide +kernel
theorem dX2_through_387 : decode cX2_through 387 = .ok (.ifCond .eq 8, 3) := by decide +kernel
theorem dX2_through_390 : decode cX2_through 390 = .ok (.iload 12, 2) := by decide +kernel
theorem dX2_through_392 : decode cX2_through 392 = .ok (.goto 5, 3) := by decide +kernel
theorem dX2_through_395 : decode cX2_through 395 = .ok (.iload 11, 2) := by decide +kernel
theorem dX2_through_397 : decode cX2_through 397 = .ok (.ireturn, 1) := by decide +kernel
set_option maxRecDepth 20000 in
theorem ggX2_worse_X2_forward : GoodIn wsX2_worse wsX2_forward := goodIn_r _ [7, 8, 9, 10, 11, 12, 13, 14, 15, 6, 16, 17, 18, 19, 20, 21, 22, 23, 24, 25, 26, 27, 28, 29, 30, 31, 32, 33, 34, 35, 36, 37, 38, 39, 40, 41, 42, 43, 44, 45, 46, 47, 48, 2, 49, 50, 51, 52, 53, 54, 55, 56, 57, 58, 59, 60, 61, 62, 63, 64, 65, 66, 67, 68, 69, 70, 71, 72, 73, 74, 75, 76, 77, 78, 79] (by decide +kernel) (by decide +kernel)
set_option maxRecDepth 20000 in
theorem gX2_worse_X2_forward : GoodIn wsX2_worse (wsV RX2 113 RX2 yX2_forward wsX2_forward) := goodIn_app (goodIn_of _ (by decide +kernel)) ggX2_worse_X2_forward
theorem dX2_worse_0 : decode cX2_worse 0 = .ok (.aload_n 0, 1) := by decide +kernel
theorem dX2_worse_1 : decode cX2_worse 1 = .ok (.iconst 0, 1) := by decide +kernel
theorem dX2_worse_2 : decode cX2_worse 2 = .ok (.putfield 66, 3) := by decide +kernel
theorem dX2_worse_5 : decode cX2_worse 5 = .ok (.iconst 0, 1) := by decide +kernel
theorem dX2_worse_6 : decode cX2_worse 6 = .ok (.istore_n 1, 1) := by decide +kernel
theorem dX2_worse_7 : decode cX2_worse 7 = .ok (.iload_n 1, 1) := by decide +kernel
theorem dX2_worse_8 : decode cX2_worse 8 = .ok (.bipush 6, 2) := by decide +kernel
theorem dX2_worse_10 : decode cX2_worse 10 = .ok (.if_icmp .ge 23, 3) := by decide +kernel
theorem dX2_worse_13 : decode cX2_worse 13 = .ok (.aload_n 0, 1) := by decide +kernel
theorem dX2_worse_14 : decode cX2_worse 14 = .ok (.iload_n 1, 1) := by decide +kernel
theorem dX2_worse_15 : decode cX2_worse 15 = .ok (.putfield 79, 3) := by decide +kernel
theorem dX2_worse_18 : decode cX2_worse 18 = .ok (.aload_n 0, 1) := by decide +kernel
theorem dX2_worse_19 : decode cX2_worse 19 = .ok (.invokevirtual 113, 3) := by decide +kernel
theorem dX2_worse_22 : decode cX2_worse 22 = .ok (.ifCond .ge 5, 3) := by decide +kernel
theorem dX2_worse_25 : decode cX2_worse 25 = .ok (.iload_n 1, 1) := by decide +kernel
theorem dX2_worse_26 : decode cX2_worse 26 = .ok (.ireturn, 1) := by decide +kernel
theorem dX2_worse_27 : decode cX2_worse 27 = .ok (.iinc 1 1, 3) := by decide +kernel
theorem dX2_worse_30 : decode cX2_worse 30 = .ok (.goto (-23), 3) := by decide +kernel
theorem dX2_worse_33 : decode cX2_worse 33 = .ok (.iconst (-1), 1) := by decide +kernel
theorem dX2_worse_34 : decode cX2_worse 34 = .ok (.ireturn, 1) := by decide +kernel
set_option maxRecDepth 20000 in
theorem ggX2_quarrel_X2_forward : GoodIn wsX2_quarrel wsX2_forward := goodIn_r _ [7, 8, 9, 10, 11, 12, 13, 14, 15, 6, 16, 17, 18, 19, 20, 21, 22, 23, 24, 25, 26, 27, 28, 29, 30, 31, 32, 33, 34, 35, 36, 37, 38, 39, 40, 41, 42, 43, 44, 45, 46, 47, 48, 2, 49, 50, 51, 52, 53, 54, 55, 56, 57, 58, 59, 60, 61, 62, 63, 64, 65, 66, 67, 68, 69, 70, 71, 72, 73, 74, 75, 76, 77, 78, 79] (by decide +kernel) (by decide +kernel)
set_option maxRecDepth 20000 in
theorem gX2_quarrel_X2_forward : GoodIn wsX2_quarrel (wsV RX2 113 RX2 yX2_forward wsX2_forward) := goodIn_app (goodIn_of _ (by decide +kernel)) ggX2_quarrel_X2_forward
theorem dX2_quarrel_0 : decode cX2_quarrel 0 = .ok (.aload_n 0, 1) := by decide +kernel
theorem dX2_quarrel_1 : decode cX2_quarrel 1 = .ok (.iconst 0, 1) := by decide +kernel
theorem dX2_quarrel_2 : decode cX2_quarrel 2 = .ok (.putfield 66, 3) := by decide +kernel
theorem dX2_quarrel_5 : decode cX2_quarrel 5 = .ok (.aload_n 0, 1) := by decide +kernel
theorem dX2_quarrel_6 : decode cX2_quarrel 6 = .ok (.iconst 0, 1) := by decide +kernel
theorem dX2_quarrel_7 : decode cX2_quarrel 7 = .ok (.putfield 79, 3) := by decide +kernel
theorem dX2_quarrel_10 : decode cX2_quarrel 10 = .ok (.aload_n 0, 1) := by decide +kernel
theorem dX2_quarrel_11 : decode cX2_quarrel 11 = .ok (.invokevirtual 113, 3) := by decide +kernel
theorem dX2_quarrel_14 : decode cX2_quarrel 14 = .ok (.ireturn, 1) := by decide +kernel
set_option maxRecDepth 20000 in
theorem ggX2_look_X2_fails : GoodIn wsX2_look wsX2_fails := goodIn_r _ [14, 1, 15, 16, 17, 18, 19, 20, 21, 22, 23, 24, 25, 26, 27, 28, 29, 30, 31, 32, 33, 34, 35] (by decide +kernel) (by decide +kernel)
set_option maxRecDepth 20000 in
theorem gX2_look_X2_fails : GoodIn wsX2_look (wsV RX2 120 RX2 yX2_fails wsX2_fails) := goodIn_app (goodIn_of _ (by decide +kernel)) ggX2_look_X2_fails
theorem dX2_look_0 : decode cX2_look 0 = .ok (.aload_n 0, 1) := by decide +kernel
theorem dX2_look_1 : decode cX2_look 1 = .ok (.iconst 0, 1) := by decide +kernel
theorem dX2_look_2 : decode cX2_look 2 = .ok (.putfield 66, 3) := by decide +kernel
theorem dX2_look_5 : decode cX2_look 5 = .ok (.iload_n 1, 1) := by decide +kernel
theorem dX2_look_6 : decode cX2_look 6 = .ok (.ifCond .lt 11, 3) := by decide +kernel
theorem dX2_look_9 : decode cX2_look 9 = .ok (.iload_n 1, 1) := by decide +kernel
theorem dX2_look_10 : decode cX2_look 10 = .ok (.aload_n 0, 1) := by decide +kernel
theorem dX2_look_11 : decode cX2_look 11 = .ok (.getfield 69, 3) := by decide +kernel
theorem dX2_look_14 : decode cX2_look 14 = .ok (.if_icmp .lt 9, 3) := by decide +kernel
theorem dX2_look_17 : decode cX2_look 17 = .ok (.aload_n 0, 1) := by decide +kernel
theorem dX2_look_18 : decode cX2_look 18 = .ok (.iconst 1, 1) := by decide +kernel
theorem dX2_look_19 : decode cX2_look 19 = .ok (.invokevirtual 120, 3) := by decide +kernel
theorem dX2_look_22 : decode cX2_look 22 = .ok (.ireturn, 1) := by decide +kernel
theorem dX2_look_23 : decode cX2_look 23 = .ok (.iconst 0, 1) := by decide +kernel
theorem dX2_look_24 : decode cX2_look 24 = .ok (.istore_n 3, 1) := by decide +kernel
theorem dX2_look_25 : decode cX2_look 25 = .ok (.iload_n 2, 1) := by decide +kernel
theorem dX2_look_26 : decode cX2_look 26 = .ok (.tableswitch 152 0 6 #[42, 49, 56, 63, 70, 70, 70], 42) := by decide +kernel
theorem dX2_look_68 : decode cX2_look 68 = .ok (.aload_n 0, 1) := by decide +kernel
theorem dX2_look_69 : decode cX2_look 69 = .ok (.getfield 13, 3) := by decide +kernel
theorem dX2_look_72 : decode cX2_look 72 = .ok (.iload_n 1, 1) := by decide +kernel
theorem dX2_look_73 : decode cX2_look 73 = .ok (.iaload, 1) := by decide +kernel
theorem dX2_look_74 : decode cX2_look 74 = .ok (.ireturn, 1) := by decide +kernel
theorem dX2_look_75 : decode cX2_look 75 = .ok (.aload_n 0, 1) := by decide +kernel
theorem dX2_look_76 : decode cX2_look 76 = .ok (.getfield 17, 3) := by decide +kernel
theorem dX2_look_79 : decode cX2_look 79 = .ok (.iload_n 1, 1) := by decide +kernel
theorem dX2_look_80 : decode cX2_look 80 = .ok (.iaload, 1) := by decide +kernel
theorem dX2_look_81 : decode cX2_look 81 = .ok (.ireturn, 1) := by decide +kernel
theorem dX2_look_82 : decode cX2_look 82 = .ok (.aload_n 0, 1) := by decide +kernel
theorem dX2_look_83 : decode cX2_look 83 = .ok (.getfield 20, 3) := by decide +kernel
theorem dX2_look_86 : decode cX2_look 86 = .ok (.iload_n 1, 1) := by decide +kernel
theorem dX2_look_87 : decode cX2_look 87 = .ok (.iaload, 1) := by decide +kernel
theorem dX2_look_88 : decode cX2_look 88 = .ok (.ireturn, 1) := by decide +kernel
theorem dX2_look_89 : decode cX2_look 89 = .ok (.aload_n 0, 1) := by decide +kernel
theorem dX2_look_90 : decode cX2_look 90 = .ok (.getfield 23, 3) := by decide +kernel
theorem dX2_look_93 : decode cX2_look 93 = .ok (.iload_n 1, 1) := by decide +kernel
theorem dX2_look_94 : decode cX2_look 94 = .ok (.iaload, 1) := by decide +kernel
theorem dX2_look_95 : decode cX2_look 95 = .ok (.ireturn, 1) := by decide +kernel
theorem dX2_look_96 : decode cX2_look 96 = .ok (.iconst 0, 1) := by decide +kernel
theorem dX2_look_97 : decode cX2_look 97 = .ok (.istore 4, 2) := by decide +kernel
theorem dX2_look_99 : decode cX2_look 99 = .ok (.iload 4, 2) := by decide +kernel
theorem dX2_look_101 : decode cX2_look 101 = .ok (.aload_n 0, 1) := by decide +kernel
theorem dX2_look_102 : decode cX2_look 102 = .ok (.getfield 7, 3) := by decide +kernel
theorem dX2_look_105 : decode cX2_look 105 = .ok (.if_icmp .ge 71, 3) := by decide +kernel
theorem dX2_look_108 : decode cX2_look 108 = .ok (.aload_n 0, 1) := by decide +kernel
theorem dX2_look_109 : decode cX2_look 109 = .ok (.getfield 26, 3) := by decide +kernel
theorem dX2_look_112 : decode cX2_look 112 = .ok (.bipush 60, 2) := by decide +kernel
theorem dX2_look_114 : decode cX2_look 114 = .ok (.iload_n 1, 1) := by decide +kernel
theorem dX2_look_115 : decode cX2_look 115 = .ok (.imul, 1) := by decide +kernel
theorem dX2_look_116 : decode cX2_look 116 = .ok (.iload 4, 2) := by decide +kernel
theorem dX2_look_118 : decode cX2_look 118 = .ok (.iadd, 1) := by decide +kernel
theorem dX2_look_119 : decode cX2_look 119 = .ok (.iaload, 1) := by decide +kernel
theorem dX2_look_120 : decode cX2_look 120 = .ok (.ifCond .ge 6, 3) := by decide +kernel
theorem dX2_look_123 : decode cX2_look 123 = .ok (.goto 47, 3) := by decide +kernel
theorem dX2_look_126 : decode cX2_look 126 = .ok (.iload_n 3, 1) := by decide +kernel
theorem dX2_look_127 : decode cX2_look 127 = .ok (.iload_n 2, 1) := by decide +kernel
theorem dX2_look_128 : decode cX2_look 128 = .ok (.iconst 4, 1) := by decide +kernel
theorem dX2_look_129 : decode cX2_look 129 = .ok (.if_icmp .ne 7, 3) := by decide +kernel
theorem dX2_look_132 : decode cX2_look 132 = .ok (.iconst 1, 1) := by decide +kernel
theorem dX2_look_133 : decode cX2_look 133 = .ok (.goto 35, 3) := by decide +kernel
theorem dX2_look_136 : decode cX2_look 136 = .ok (.iload_n 2, 1) := by decide +kernel
theorem dX2_look_137 : decode cX2_look 137 = .ok (.iconst 5, 1) := by decide +kernel
theorem dX2_look_138 : decode cX2_look 138 = .ok (.if_icmp .ne 18, 3) := by decide +kernel
theorem dX2_look_141 : decode cX2_look 141 = .ok (.aload_n 0, 1) := by decide +kernel
theorem dX2_look_142 : decode cX2_look 142 = .ok (.getfield 26, 3) := by decide +kernel
theorem dX2_look_145 : decode cX2_look 145 = .ok (.bipush 60, 2) := by decide +kernel
theorem dX2_look_147 : decode cX2_look 147 = .ok (.iload_n 1, 1) := by decide +kernel
theorem dX2_look_148 : decode cX2_look 148 = .ok (.imul, 1) := by decide +kernel
theorem dX2_look_149 : decode cX2_look 149 = .ok (.iload 4, 2) := by decide +kernel
theorem dX2_look_151 : decode cX2_look 151 = .ok (.iadd, 1) := by decide +kernel
theorem dX2_look_152 : decode cX2_look 152 = .ok (.iaload, 1) := by decide +kernel
theorem dX2_look_153 : decode cX2_look 153 = .ok (.goto 15, 3) := by decide +kernel
theorem dX2_look_156 : decode cX2_look 156 = .ok (.aload_n 0, 1) := by decide +kernel
theorem dX2_look_157 : decode cX2_look 157 = .ok (.getfield 29, 3) := by decide +kernel
theorem dX2_look_160 : decode cX2_look 160 = .ok (.bipush 60, 2) := by decide +kernel
theorem dX2_look_162 : decode cX2_look 162 = .ok (.iload_n 1, 1) := by decide +kernel
theorem dX2_look_163 : decode cX2_look 163 = .ok (.imul, 1) := by decide +kernel
theorem dX2_look_164 : decode cX2_look 164 = .ok (.iload 4, 2) := by decide +kernel
theorem dX2_look_166 : decode cX2_look 166 = .ok (.iadd, 1) := by decide +kernel
theorem dX2_look_167 : decode cX2_look 167 = .ok (.iaload, 1) := by decide +kernel
theorem dX2_look_168 : decode cX2_look 168 = .ok (.iadd, 1) := by decide +kernel
theorem dX2_look_169 : decode cX2_look 169 = .ok (.istore_n 3, 1) := by decide +kernel
theorem dX2_look_170 : decode cX2_look 170 = .ok (.iinc 4 1, 3) := by decide +kernel
theorem dX2_look_173 : decode cX2_look 173 = .ok (.goto (-74), 3) := by decide +kernel
theorem dX2_look_176 : decode cX2_look 176 = .ok (.iload_n 3, 1) := by decide +kernel
theorem dX2_look_177 : decode cX2_look 177 = .ok (.ireturn, 1) := by decide +kernel
theorem dX2_look_178 : decode cX2_look 178 = .ok (.aload_n 0, 1) := by decide +kernel
theorem dX2_look_179 : decode cX2_look 179 = .ok (.iconst 2, 1) := by decide +kernel
theorem dX2_look_180 : decode cX2_look 180 = .ok (.invokevirtual 120, 3) := by decide +kernel
theorem dX2_look_183 : decode cX2_look 183 = .ok (.ireturn, 1) := by decide +kernel
theorem dX2_count_0 : decode cX2_count 0 = .ok (.aload_n 0, 1) := by decide +kernel
theorem dX2_count_1 : decode cX2_count 1 = .ok (.iconst 0, 1) := by decide +kernel
theorem dX2_count_2 : decode cX2_count 2 = .ok (.putfield 66, 3) := by decide +kernel
theorem dX2_count_5 : decode cX2_count 5 = .ok (.iconst 0, 1) := by decide +kernel
theorem dX2_count_6 : decode cX2_count 6 = .ok (.istore_n 2, 1) := by decide +kernel
theorem dX2_count_7 : decode cX2_count 7 = .ok (.iload_n 1, 1) := by decide +kernel
theorem dX2_count_8 : decode cX2_count 8 = .ok (.tableswitch 106 0 3 #[32, 37, 42, 47], 32) := by decide +kernel
theorem dX2_count_40 : decode cX2_count 40 = .ok (.aload_n 0, 1) := by decide +kernel
theorem dX2_count_41 : decode cX2_count 41 = .ok (.getfield 7, 3) := by decide +kernel
theorem dX2_count_44 : decode cX2_count 44 = .ok (.ireturn, 1) := by decide +kernel
theorem dX2_count_45 : decode cX2_count 45 = .ok (.aload_n 0, 1) := by decide +kernel
theorem dX2_count_46 : decode cX2_count 46 = .ok (.getfield 69, 3) := by decide +kernel
theorem dX2_count_49 : decode cX2_count 49 = .ok (.ireturn, 1) := by decide +kernel
theorem dX2_count_50 : decode cX2_count 50 = .ok (.aload_n 0, 1) := by decide +kernel
theorem dX2_count_51 : decode cX2_count 51 = .ok (.getfield 72, 3) := by decide +kernel
theorem dX2_count_54 : decode cX2_count 54 = .ok (.ireturn, 1) := by decide +kernel
theorem dX2_count_55 : decode cX2_count 55 = .ok (.iconst 0, 1) := by decide +kernel
theorem dX2_count_56 : decode cX2_count 56 = .ok (.istore_n 3, 1) := by decide +kernel
theorem dX2_count_57 : decode cX2_count 57 = .ok (.iload_n 3, 1) := by decide +kernel
theorem dX2_count_58 : decode cX2_count 58 = .ok (.aload_n 0, 1) := by decide +kernel
theorem dX2_count_59 : decode cX2_count 59 = .ok (.getfield 69, 3) := by decide +kernel
theorem dX2_count_62 : decode cX2_count 62 = .ok (.if_icmp .ge 50, 3) := by decide +kernel
theorem dX2_count_65 : decode cX2_count 65 = .ok (.iconst 0, 1) := by decide +kernel
theorem dX2_count_66 : decode cX2_count 66 = .ok (.istore 4, 2) := by decide +kernel
theorem dX2_count_68 : decode cX2_count 68 = .ok (.iload 4, 2) := by decide +kernel
theorem dX2_count_70 : decode cX2_count 70 = .ok (.aload_n 0, 1) := by decide +kernel
theorem dX2_count_71 : decode cX2_count 71 = .ok (.getfield 7, 3) := by decide +kernel
theorem dX2_count_74 : decode cX2_count 74 = .ok (.if_icmp .ge 32, 3) := by decide +kernel
theorem dX2_count_77 : decode cX2_count 77 = .ok (.iload_n 2, 1) := by decide +kernel
theorem dX2_count_78 : decode cX2_count 78 = .ok (.aload_n 0, 1) := by decide +kernel
theorem dX2_count_79 : decode cX2_count 79 = .ok (.getfield 26, 3) := by decide +kernel
theorem dX2_count_82 : decode cX2_count 82 = .ok (.bipush 60, 2) := by decide +kernel
theorem dX2_count_84 : decode cX2_count 84 = .ok (.iload_n 3, 1) := by decide +kernel
theorem dX2_count_85 : decode cX2_count 85 = .ok (.imul, 1) := by decide +kernel
theorem dX2_count_86 : decode cX2_count 86 = .ok (.iload 4, 2) := by decide +kernel
theorem dX2_count_88 : decode cX2_count 88 = .ok (.iadd, 1) := by decide +kernel
theorem dX2_count_89 : decode cX2_count 89 = .ok (.iaload, 1) := by decide +kernel
theorem dX2_count_90 : decode cX2_count 90 = .ok (.ifCond .lt 7, 3) := by decide +kernel
theorem dX2_count_93 : decode cX2_count 93 = .ok (.iconst 1, 1) := by decide +kernel
theorem dX2_count_94 : decode cX2_count 94 = .ok (.goto 4, 3) := by decide +kernel
theorem dX2_count_97 : decode cX2_count 97 = .ok (.iconst 0, 1) := by decide +kernel
theorem dX2_count_98 : decode cX2_count 98 = .ok (.iadd, 1) := by decide +kernel
theorem dX2_count_99 : decode cX2_count 99 = .ok (.istore_n 2, 1) := by decide +kernel
theorem dX2_count_100 : decode cX2_count 100 = .ok (.iinc 4 1, 3) := by decide +kernel
theorem dX2_count_103 : decode cX2_count 103 = .ok (.goto (-35), 3) := by decide +kernel
theorem dX2_count_106 : decode cX2_count 106 = .ok (.iinc 3 1, 3) := by decide +kernel
theorem dX2_count_109 : decode cX2_count 109 = .ok (.goto (-52), 3) := by decide +kernel
theorem dX2_count_112 : decode cX2_count 112 = .ok (.iload_n 2, 1) := by decide +kernel
theorem dX2_count_113 : decode cX2_count 113 = .ok (.ireturn, 1) := by decide +kernel
theorem dX2_count_114 : decode cX2_count 114 = .ok (.iconst (-1), 1) := by decide +kernel
theorem dX2_count_115 : decode cX2_count 115 = .ok (.ireturn, 1) := by decide +kernel
theorem dJ9_max_7cf53_0 : decode cJ9_max_7cf53 0 = .ok (.iload_n 0, 1) := by decide +kernel
theorem dJ9_max_7cf53_1 : decode cJ9_max_7cf53 1 = .ok (.iload_n 1, 1) := by decide +kernel
theorem dJ9_max_7cf53_2 : decode cJ9_max_7cf53 2 = .ok (.if_icmp .lt 7, 3) := by decide +kernel
theorem dJ9_max_7cf53_5 : decode cJ9_max_7cf53 5 = .ok (.iload_n 0, 1) := by decide +kernel
theorem dJ9_max_7cf53_6 : decode cJ9_max_7cf53 6 = .ok (.goto 4, 3) := by decide +kernel
theorem dJ9_max_7cf53_9 : decode cJ9_max_7cf53 9 = .ok (.iload_n 1, 1) := by decide +kernel
theorem dJ9_max_7cf53_10 : decode cJ9_max_7cf53 10 = .ok (.ireturn, 1) := by decide +kernel
theorem dJ9_min_7cf53_0 : decode cJ9_min_7cf53 0 = .ok (.iload_n 0, 1) := by decide +kernel
theorem dJ9_min_7cf53_1 : decode cJ9_min_7cf53 1 = .ok (.iload_n 1, 1) := by decide +kernel
theorem dJ9_min_7cf53_2 : decode cJ9_min_7cf53 2 = .ok (.if_icmp .gt 7, 3) := by decide +kernel
theorem dJ9_min_7cf53_5 : decode cJ9_min_7cf53 5 = .ok (.iload_n 0, 1) := by decide +kernel
theorem dJ9_min_7cf53_6 : decode cJ9_min_7cf53 6 = .ok (.goto 4, 3) := by decide +kernel
theorem dJ9_min_7cf53_9 : decode cJ9_min_7cf53 9 = .ok (.iload_n 1, 1) := by decide +kernel
theorem dJ9_min_7cf53_10 : decode cJ9_min_7cf53 10 = .ok (.ireturn, 1) := by decide +kernel
theorem dJ7_fill_53178_0 : decode cJ7_fill_53178 0 = .ok (.iconst 0, 1) := by decide +kernel
theorem dJ7_fill_53178_1 : decode cJ7_fill_53178 1 = .ok (.istore_n 2, 1) := by decide +kernel
theorem dJ7_fill_53178_2 : decode cJ7_fill_53178 2 = .ok (.aload_n 0, 1) := by decide +kernel
theorem dJ7_fill_53178_3 : decode cJ7_fill_53178 3 = .ok (.arraylength, 1) := by decide +kernel
theorem dJ7_fill_53178_4 : decode cJ7_fill_53178 4 = .ok (.istore_n 3, 1) := by decide +kernel
theorem dJ7_fill_53178_5 : decode cJ7_fill_53178 5 = .ok (.iload_n 2, 1) := by decide +kernel
theorem dJ7_fill_53178_6 : decode cJ7_fill_53178 6 = .ok (.iload_n 3, 1) := by decide +kernel
theorem dJ7_fill_53178_7 : decode cJ7_fill_53178 7 = .ok (.if_icmp .ge 13, 3) := by decide +kernel
theorem dJ7_fill_53178_10 : decode cJ7_fill_53178 10 = .ok (.aload_n 0, 1) := by decide +kernel
theorem dJ7_fill_53178_11 : decode cJ7_fill_53178 11 = .ok (.iload_n 2, 1) := by decide +kernel
theorem dJ7_fill_53178_12 : decode cJ7_fill_53178 12 = .ok (.iload_n 1, 1) := by decide +kernel
theorem dJ7_fill_53178_13 : decode cJ7_fill_53178 13 = .ok (.iastore, 1) := by decide +kernel
theorem dJ7_fill_53178_14 : decode cJ7_fill_53178 14 = .ok (.iinc 2 1, 3) := by decide +kernel
theorem dJ7_fill_53178_17 : decode cJ7_fill_53178 17 = .ok (.goto (-12), 3) := by decide +kernel
theorem dJ7_fill_53178_20 : decode cJ7_fill_53178 20 = .ok (.return_, 1) := by decide +kernel
end
section
/-! My own rows over the kit: instructions said over Int, contracts of one form, calls with a sub-world. -/
theorem t_inj {x y : Int32} (h : x.toInt = y.toInt) : x = y := Int32.toInt_inj.mp h
theorem t_lt {x y : Int32} : x < y ↔ x.toInt < y.toInt := Int32.lt_iff_toInt_lt
theorem t_le {x y : Int32} : x ≤ y ↔ x.toInt ≤ y.toInt := Int32.le_iff_toInt_le
theorem t_bm {z : Int} (h1 : -2147483648 ≤ z) (h2 : z ≤ 2147483647) : z.bmod (2 ^ 32) = z := by
  rw [Int.bmod_eq_of_le] <;> omega
theorem t_add {x y : Int32} (h1 : -2147483648 ≤ x.toInt + y.toInt) (h2 : x.toInt + y.toInt ≤ 2147483647) : (x + y).toInt = x.toInt + y.toInt := by
  rw [Int32.toInt_add]; exact t_bm h1 h2
theorem t_sub {x y : Int32} (h1 : -2147483648 ≤ x.toInt - y.toInt) (h2 : x.toInt - y.toInt ≤ 2147483647) : (x - y).toInt = x.toInt - y.toInt := by
  rw [Int32.toInt_sub]; exact t_bm h1 h2
theorem t_mul {x y : Int32} {a b : Int} (hx : x.toInt = a) (hy : y.toInt = b) (h1 : -2147483648 ≤ a * b) (h2 : a * b ≤ 2147483647) : (x * y).toInt = a * b := by
  rw [Int32.toInt_mul, hx, hy]; exact t_bm h1 h2
theorem t_neg {x : Int32} (h1 : -2147483648 ≤ - x.toInt) (h2 : - x.toInt ≤ 2147483647) : (-x).toInt = - x.toInt := by
  rw [Int32.toInt_neg]; exact t_bm h1 h2
theorem t_k {x : Int32} {j : Nat} (h : x.toInt = (j : Int)) : x.toNatClampNeg = j := by
  show x.toInt.toNat = j
  omega
theorem t_in {x : Int32} {j n : Nat} (h : x.toInt = (j : Int)) (hj : j < n) : vp_in x n := vp_in_iff.mpr ⟨by omega, by omega⟩
theorem t_rng (x : Int32) : -2147483648 ≤ x.toInt ∧ x.toInt ≤ 2147483647 := ⟨x.le_toInt, by have := x.toInt_lt; omega⟩
theorem t_nI {j : Nat} (h : j < 2 ^ 31) : (nI j).toInt = (j : Int) := nI_toInt h
theorem t_zn {v : Int32} (h : v.toInt = 0 ∨ v.toInt = 1) : narrow .boolean (.int v) = .int v := by
  rcases h with h | h
  · have : v = 0 := t_inj (by rw [h]; rfl)
    subst this; rfl
  · have : v = 1 := t_inj (by rw [h]; rfl)
    subst this; rfl
theorem t_mx {x y : Int32} : (if x < y then y else x).toInt = max x.toInt y.toInt := by
  by_cases h : x < y
  · rw [if_pos h]; have := t_lt.mp h; omega
  · rw [if_neg h]; have : ¬ x.toInt < y.toInt := fun q => h (t_lt.mpr q); omega
theorem t_mn {x y : Int32} : (if y < x then y else x).toInt = min x.toInt y.toInt := by
  by_cases h : y < x
  · rw [if_pos h]; have := t_lt.mp h; omega
  · rw [if_neg h]; have : ¬ y.toInt < x.toInt := fun q => h (t_lt.mpr q); omega
theorem l_fm {α β : Type} {f : α → Option β} : ∀ {is : List α} {w : List β}, is.map f = w.map some → is.filterMap f = w := by
  intro is
  induction is with
  | nil => intro w h; cases w with
    | nil => rfl
    | cons a t => simp at h
  | cons i is ih => intro w h; cases w with
    | nil => simp at h
    | cons a t =>
      simp only [List.map_cons, List.cons.injEq] at h
      rw [List.filterMap_cons_some h.1, ih h.2]
section KA
variable {p : Program} {l : Launch} {e : Env} {R : Room} {s : State} {m : MethodId} {args : Array Value} {below : List Frame} {meth : Method} {c : Code} {H : Heap} {locs : List Loc} {cells slots : Nat} {Q : State → Prop} {cc : ByteArray} {pc : Nat} {ls : Array Slot} {rest : List Value}
theorem c_iconst (hexec : p.tables.exec = Jvm.exec) (hb : c.code = cc) {n : Int} (hdg : decode cc pc = .ok (.iconst n, 1)) (hz : (Int32.ofInt n).toInt = n)
    (k : ∀ v : Int32, v.toInt = n → W p l e R s m args below meth c H locs cells slots Q (F0 m (pc + 1) ls (.int v :: rest))) : W p l e R s m args below meth c H locs cells slots Q (F0 m pc ls rest) := lv_iconst hexec hb hdg rfl (k _ hz)
theorem c_bipush (hexec : p.tables.exec = Jvm.exec) (hb : c.code = cc) {n : Int} (hdg : decode cc pc = .ok (.bipush n, 2)) (hz : (Int8.ofInt n).toInt32.toInt = n)
    (k : ∀ v : Int32, v.toInt = n → W p l e R s m args below meth c H locs cells slots Q (F0 m (pc + 2) ls (.int v :: rest))) : W p l e R s m args below meth c H locs cells slots Q (F0 m pc ls rest) := lv_bipush hexec hb hdg rfl (k _ hz)
theorem c_sipush (hexec : p.tables.exec = Jvm.exec) (hb : c.code = cc) {n : Int} (hdg : decode cc pc = .ok (.sipush n, 3)) (hz : (Int16.ofInt n).toInt32.toInt = n)
    (k : ∀ v : Int32, v.toInt = n → W p l e R s m args below meth c H locs cells slots Q (F0 m (pc + 3) ls (.int v :: rest))) : W p l e R s m args below meth c H locs cells slots Q (F0 m pc ls rest) := lv_sipush hexec hb hdg rfl (k _ hz)
theorem c_ldc (hexec : p.tables.exec = Jvm.exec) (hb : c.code = cc) {own : String} {index : Nat} {v : Int32} {n : Int} (hown : s.vm.findClass own = some m.cls) (hconst : (Jvm.Cond.constant own index v).before args s = true) (hdg : decode cc pc = .ok (.ldc index, 2)) (hz : v.toInt = n)
    (k : ∀ v : Int32, v.toInt = n → W p l e R s m args below meth c H locs cells slots Q (F0 m (pc + 2) ls (.int v :: rest))) : W p l e R s m args below meth c H locs cells slots Q (F0 m pc ls rest) := lv_ldc hexec hb hown hconst hdg (k _ hz)
theorem c_iadd (hexec : p.tables.exec = Jvm.exec) (hb : c.code = cc) {x y : Int32} (hdg : decode cc pc = .ok (.iadd, 1)) (h : -2147483648 ≤ x.toInt + y.toInt ∧ x.toInt + y.toInt ≤ 2147483647)
    (k : ∀ v : Int32, v.toInt = x.toInt + y.toInt → W p l e R s m args below meth c H locs cells slots Q (F0 m (pc + 1) ls (.int v :: rest))) : W p l e R s m args below meth c H locs cells slots Q (F0 m pc ls (.int y :: .int x :: rest)) := lv_iadd hexec hb hdg (k _ (t_add h.1 h.2))
theorem c_isub (hexec : p.tables.exec = Jvm.exec) (hb : c.code = cc) {x y : Int32} (hdg : decode cc pc = .ok (.isub, 1)) (h : -2147483648 ≤ x.toInt - y.toInt ∧ x.toInt - y.toInt ≤ 2147483647)
    (k : ∀ v : Int32, v.toInt = x.toInt - y.toInt → W p l e R s m args below meth c H locs cells slots Q (F0 m (pc + 1) ls (.int v :: rest))) : W p l e R s m args below meth c H locs cells slots Q (F0 m pc ls (.int y :: .int x :: rest)) := lv_isub hexec hb hdg (k _ (t_sub h.1 h.2))
theorem c_imul (hexec : p.tables.exec = Jvm.exec) (hb : c.code = cc) {x y : Int32} {a b : Int} (hdg : decode cc pc = .ok (.imul, 1)) (hx : x.toInt = a) (hy : y.toInt = b) (h : -2147483648 ≤ a * b ∧ a * b ≤ 2147483647)
    (k : ∀ v : Int32, v.toInt = a * b → W p l e R s m args below meth c H locs cells slots Q (F0 m (pc + 1) ls (.int v :: rest))) : W p l e R s m args below meth c H locs cells slots Q (F0 m pc ls (.int y :: .int x :: rest)) := lv_imul hexec hb hdg (k _ (t_mul hx hy h.1 h.2))
theorem c_ineg (hexec : p.tables.exec = Jvm.exec) (hb : c.code = cc) {x : Int32} (hdg : decode cc pc = .ok (.ineg, 1)) (h : -2147483648 ≤ - x.toInt ∧ - x.toInt ≤ 2147483647)
    (k : ∀ v : Int32, v.toInt = - x.toInt → W p l e R s m args below meth c H locs cells slots Q (F0 m (pc + 1) ls (.int v :: rest))) : W p l e R s m args below meth c H locs cells slots Q (F0 m pc ls (.int x :: rest)) := lv_ineg hexec hb hdg (k _ (t_neg h.1 h.2))
theorem c_iinc (hexec : p.tables.exec = Jvm.exec) (hb : c.code = cc) {i nL k : Nat} {n : Int} {x : Int32} {lv : List (Nat × Value)} (lv' : Int32 → List (Nat × Value)) (hdg : decode cc pc = .ok (.iinc i n, 3)) (h : lv_has ls nL lv) (hk : lv[k]? = some (i, .int x)) (hz : (Int32.ofInt n).toInt = n) (hr : -2147483648 ≤ x.toInt + n ∧ x.toInt + n ≤ 2147483647) (hn : i < nL) (hl : ∀ v, (i, Value.int v) :: lv.filter (fun q => !(q.1 == i) && !(q.1 + 1 == i && q.2.category == 2)) = lv' v)
    (kk : ∀ (v : Int32) (ls' : Array Slot), v.toInt = x.toInt + n → lv_has ls' nL (lv' v) → W p l e R s m args below meth c H locs cells slots Q (F0 m (pc + 3) ls' rest)) : W p l e R s m args below meth c H locs cells slots Q (F0 m pc ls rest) :=
  lv_iinc hexec hb hdg h hk rfl hn (hl _) (fun ls' h' => kk _ ls' (by rw [t_add (by rw [hz]; exact hr.1) (by rw [hz]; exact hr.2), hz]) h')
theorem c_if_eq (hexec : p.tables.exec = Jvm.exec) (hb : c.code = cc) {x : Int32} {off : Int} {tgt : Nat} (hdg : decode cc pc = .ok (.ifCond .eq off, 3)) (ht : (pc : Int) + off = (tgt : Int))
    (kt : x.toInt = 0 → W p l e R s m args below meth c H locs cells slots Q (F0 m tgt ls rest)) (kf : x.toInt ≠ 0 → W p l e R s m args below meth c H locs cells slots Q (F0 m (pc + 3) ls rest)) : W p l e R s m args below meth c H locs cells slots Q (F0 m pc ls (.int x :: rest)) :=
  lv_if_eq hexec hb hdg ht (fun h => kt (by rw [h]; rfl)) (fun h => kf (fun q => h (t_inj (by rw [q]; rfl))))
theorem c_if_ne (hexec : p.tables.exec = Jvm.exec) (hb : c.code = cc) {x : Int32} {off : Int} {tgt : Nat} (hdg : decode cc pc = .ok (.ifCond .ne off, 3)) (ht : (pc : Int) + off = (tgt : Int))
    (kt : x.toInt ≠ 0 → W p l e R s m args below meth c H locs cells slots Q (F0 m tgt ls rest)) (kf : x.toInt = 0 → W p l e R s m args below meth c H locs cells slots Q (F0 m (pc + 3) ls rest)) : W p l e R s m args below meth c H locs cells slots Q (F0 m pc ls (.int x :: rest)) :=
  lv_if_ne hexec hb hdg ht (fun h => kt (fun q => h (t_inj (by rw [q]; rfl)))) (fun h => kf (by rw [h]; rfl))
theorem c_if_lt (hexec : p.tables.exec = Jvm.exec) (hb : c.code = cc) {x : Int32} {off : Int} {tgt : Nat} (hdg : decode cc pc = .ok (.ifCond .lt off, 3)) (ht : (pc : Int) + off = (tgt : Int))
    (kt : x.toInt < 0 → W p l e R s m args below meth c H locs cells slots Q (F0 m tgt ls rest)) (kf : 0 ≤ x.toInt → W p l e R s m args below meth c H locs cells slots Q (F0 m (pc + 3) ls rest)) : W p l e R s m args below meth c H locs cells slots Q (F0 m pc ls (.int x :: rest)) :=
  lv_if_lt hexec hb hdg ht (fun h => kt (t_lt.mp h)) (fun h => kf (by have : ¬ x.toInt < (0 : Int32).toInt := fun q => h (t_lt.mpr q); have h0 : (0 : Int32).toInt = 0 := rfl; omega))
theorem c_if_ge (hexec : p.tables.exec = Jvm.exec) (hb : c.code = cc) {x : Int32} {off : Int} {tgt : Nat} (hdg : decode cc pc = .ok (.ifCond .ge off, 3)) (ht : (pc : Int) + off = (tgt : Int))
    (kt : 0 ≤ x.toInt → W p l e R s m args below meth c H locs cells slots Q (F0 m tgt ls rest)) (kf : x.toInt < 0 → W p l e R s m args below meth c H locs cells slots Q (F0 m (pc + 3) ls rest)) : W p l e R s m args below meth c H locs cells slots Q (F0 m pc ls (.int x :: rest)) :=
  lv_if_ge hexec hb hdg ht (fun h => kt (t_le.mp h)) (fun h => kf (by have : ¬ (0 : Int32).toInt ≤ x.toInt := fun q => h (t_le.mpr q); have h0 : (0 : Int32).toInt = 0 := rfl; omega))
theorem c_if_gt (hexec : p.tables.exec = Jvm.exec) (hb : c.code = cc) {x : Int32} {off : Int} {tgt : Nat} (hdg : decode cc pc = .ok (.ifCond .gt off, 3)) (ht : (pc : Int) + off = (tgt : Int))
    (kt : 0 < x.toInt → W p l e R s m args below meth c H locs cells slots Q (F0 m tgt ls rest)) (kf : x.toInt ≤ 0 → W p l e R s m args below meth c H locs cells slots Q (F0 m (pc + 3) ls rest)) : W p l e R s m args below meth c H locs cells slots Q (F0 m pc ls (.int x :: rest)) :=
  lv_if_gt hexec hb hdg ht (fun h => kt (t_lt.mp h)) (fun h => kf (by have : ¬ (0 : Int32).toInt < x.toInt := fun q => h (t_lt.mpr q); have h0 : (0 : Int32).toInt = 0 := rfl; omega))
theorem c_if_le (hexec : p.tables.exec = Jvm.exec) (hb : c.code = cc) {x : Int32} {off : Int} {tgt : Nat} (hdg : decode cc pc = .ok (.ifCond .le off, 3)) (ht : (pc : Int) + off = (tgt : Int))
    (kt : x.toInt ≤ 0 → W p l e R s m args below meth c H locs cells slots Q (F0 m tgt ls rest)) (kf : 0 < x.toInt → W p l e R s m args below meth c H locs cells slots Q (F0 m (pc + 3) ls rest)) : W p l e R s m args below meth c H locs cells slots Q (F0 m pc ls (.int x :: rest)) :=
  lv_if_le hexec hb hdg ht (fun h => kt (t_le.mp h)) (fun h => kf (by have : ¬ x.toInt ≤ (0 : Int32).toInt := fun q => h (t_le.mpr q); have h0 : (0 : Int32).toInt = 0 := rfl; omega))
theorem c_icmp_eq (hexec : p.tables.exec = Jvm.exec) (hb : c.code = cc) {x y : Int32} {off : Int} {tgt : Nat} (hdg : decode cc pc = .ok (.if_icmp .eq off, 3)) (ht : (pc : Int) + off = (tgt : Int))
    (kt : x.toInt = y.toInt → W p l e R s m args below meth c H locs cells slots Q (F0 m tgt ls rest)) (kf : x.toInt ≠ y.toInt → W p l e R s m args below meth c H locs cells slots Q (F0 m (pc + 3) ls rest)) : W p l e R s m args below meth c H locs cells slots Q (F0 m pc ls (.int y :: .int x :: rest)) :=
  lv_icmp_eq hexec hb hdg ht (fun h => kt (by rw [h])) (fun h => kf (fun q => h (t_inj q)))
theorem c_icmp_ne (hexec : p.tables.exec = Jvm.exec) (hb : c.code = cc) {x y : Int32} {off : Int} {tgt : Nat} (hdg : decode cc pc = .ok (.if_icmp .ne off, 3)) (ht : (pc : Int) + off = (tgt : Int))
    (kt : x.toInt ≠ y.toInt → W p l e R s m args below meth c H locs cells slots Q (F0 m tgt ls rest)) (kf : x.toInt = y.toInt → W p l e R s m args below meth c H locs cells slots Q (F0 m (pc + 3) ls rest)) : W p l e R s m args below meth c H locs cells slots Q (F0 m pc ls (.int y :: .int x :: rest)) :=
  lv_icmp_ne hexec hb hdg ht (fun h => kt (fun q => h (t_inj q))) (fun h => kf (by rw [h]))
theorem c_icmp_lt (hexec : p.tables.exec = Jvm.exec) (hb : c.code = cc) {x y : Int32} {off : Int} {tgt : Nat} (hdg : decode cc pc = .ok (.if_icmp .lt off, 3)) (ht : (pc : Int) + off = (tgt : Int))
    (kt : x.toInt < y.toInt → W p l e R s m args below meth c H locs cells slots Q (F0 m tgt ls rest)) (kf : y.toInt ≤ x.toInt → W p l e R s m args below meth c H locs cells slots Q (F0 m (pc + 3) ls rest)) : W p l e R s m args below meth c H locs cells slots Q (F0 m pc ls (.int y :: .int x :: rest)) :=
  lv_icmp_lt hexec hb hdg ht (fun h => kt (t_lt.mp h)) (fun h => kf (by have : ¬ x.toInt < y.toInt := fun q => h (t_lt.mpr q); omega))
theorem c_icmp_ge (hexec : p.tables.exec = Jvm.exec) (hb : c.code = cc) {x y : Int32} {off : Int} {tgt : Nat} (hdg : decode cc pc = .ok (.if_icmp .ge off, 3)) (ht : (pc : Int) + off = (tgt : Int))
    (kt : y.toInt ≤ x.toInt → W p l e R s m args below meth c H locs cells slots Q (F0 m tgt ls rest)) (kf : x.toInt < y.toInt → W p l e R s m args below meth c H locs cells slots Q (F0 m (pc + 3) ls rest)) : W p l e R s m args below meth c H locs cells slots Q (F0 m pc ls (.int y :: .int x :: rest)) :=
  lv_icmp_ge hexec hb hdg ht (fun h => kt (t_le.mp h)) (fun h => kf (by have : ¬ y.toInt ≤ x.toInt := fun q => h (t_le.mpr q); omega))
theorem c_icmp_gt (hexec : p.tables.exec = Jvm.exec) (hb : c.code = cc) {x y : Int32} {off : Int} {tgt : Nat} (hdg : decode cc pc = .ok (.if_icmp .gt off, 3)) (ht : (pc : Int) + off = (tgt : Int))
    (kt : y.toInt < x.toInt → W p l e R s m args below meth c H locs cells slots Q (F0 m tgt ls rest)) (kf : x.toInt ≤ y.toInt → W p l e R s m args below meth c H locs cells slots Q (F0 m (pc + 3) ls rest)) : W p l e R s m args below meth c H locs cells slots Q (F0 m pc ls (.int y :: .int x :: rest)) :=
  lv_icmp_gt hexec hb hdg ht (fun h => kt (t_lt.mp h)) (fun h => kf (by have : ¬ y.toInt < x.toInt := fun q => h (t_lt.mpr q); omega))
theorem c_icmp_le (hexec : p.tables.exec = Jvm.exec) (hb : c.code = cc) {x y : Int32} {off : Int} {tgt : Nat} (hdg : decode cc pc = .ok (.if_icmp .le off, 3)) (ht : (pc : Int) + off = (tgt : Int))
    (kt : x.toInt ≤ y.toInt → W p l e R s m args below meth c H locs cells slots Q (F0 m tgt ls rest)) (kf : y.toInt < x.toInt → W p l e R s m args below meth c H locs cells slots Q (F0 m (pc + 3) ls rest)) : W p l e R s m args below meth c H locs cells slots Q (F0 m pc ls (.int y :: .int x :: rest)) :=
  lv_icmp_le hexec hb hdg ht (fun h => kt (t_le.mp h)) (fun h => kf (by have : ¬ x.toInt ≤ y.toInt := fun q => h (t_le.mpr q); omega))
theorem c_mmax (hexec : p.tables.exec = Jvm.exec) (hb : c.code = cc) (hml : c.maxLocals = ls.size) {own : String} {index : Nat} (hown : s.vm.findClass own = some m.cls) (hlink : (Cond.methodLink own index Lib.Math.max.name).before args s = true) (hstat : (Cond.static Lib.Math.max.name).before args s = true) (hini : (Cond.initialized "java/lang/Math").before args s = true) (hcode : (Cond.code Lib.Math.max.name Lib.Math.max.code 2 (some .int)).before args s = true)
    (hframes : 1 ≤ R.frames) (hlocals : (rest.map fun v => v.category).sum + 13 ≤ R.locals) (hc : cells ≤ R.cells) (hs : slots ≤ R.slots) {x y : Int32} (hdg : decode cc pc = .ok (.invokestatic index, 3))
    (kk : ∀ v : Int32, v.toInt = max x.toInt y.toInt → W p l e R s m args below meth c H locs cells slots Q (F0 m (pc + 3) ls (.int v :: rest))) : W p l e R s m args below meth c H locs cells slots Q (F0 m pc ls (.int y :: .int x :: rest)) :=
  va_mmax hexec hb hml hown hlink hstat hini hcode hframes hlocals hc hs hdg (kk _ t_mx)
theorem c_mmin (hexec : p.tables.exec = Jvm.exec) (hb : c.code = cc) (hml : c.maxLocals = ls.size) {own : String} {index : Nat} (hown : s.vm.findClass own = some m.cls) (hlink : (Cond.methodLink own index Lib.Math.min.name).before args s = true) (hstat : (Cond.static Lib.Math.min.name).before args s = true) (hini : (Cond.initialized "java/lang/Math").before args s = true) (hcode : (Cond.code Lib.Math.min.name Lib.Math.min.code 2 (some .int)).before args s = true)
    (hframes : 1 ≤ R.frames) (hlocals : (rest.map fun v => v.category).sum + 13 ≤ R.locals) (hc : cells ≤ R.cells) (hs : slots ≤ R.slots) {x y : Int32} (hdg : decode cc pc = .ok (.invokestatic index, 3))
    (kk : ∀ v : Int32, v.toInt = min x.toInt y.toInt → W p l e R s m args below meth c H locs cells slots Q (F0 m (pc + 3) ls (.int v :: rest))) : W p l e R s m args below meth c H locs cells slots Q (F0 m pc ls (.int y :: .int x :: rest)) :=
  va_mmin hexec hb hml hown hlink hstat hini hcode hframes hlocals hc hs hdg (kk _ t_mn)
variable {D : va_G} {tys : List (ClassId × FieldType)} {ws : va_W} {A : Nat → Prop} {H0 : Heap} {a : Nat}
theorem c_iald (hexec : p.tables.exec = Jvm.exec) (hb : c.code = cc) (hK : va_K D vwCl tys s) (hP : va_P D vwCl ws H) (q0 t0 : Nat) {cA : ClassId} {n : Nat} {f : Nat → Int32} (ha : ws[q0]? = some (a, .inl (cA, n, .inl f))) (ht : tys[t0]? = some (cA, .int)) {i : Int32} (j : Nat) (hi : i.toInt = (j : Int)) (hj : j < n) (hdg : decode cc pc = .ok (.iaload, 1))
    (kk : ∀ v : Int32, v = f j → W p l e R s m args below meth c H locs cells slots Q (F0 m (pc + 1) ls (.int v :: rest))) : W p l e R s m args below meth c H locs cells slots Q (F0 m pc ls (.int i :: .ref a :: rest)) :=
  va_iald hexec hb hK hP q0 t0 ha ht (t_in hi hj) hdg (kk _ (by rw [t_k hi]))
theorem c_iast (hexec : p.tables.exec = Jvm.exec) (hb : c.code = cc) (hK : va_K D vwCl tys s) (hP : va_P D vwCl ws H) (hD : va_D A ws) (hS : va_S A H0 H locs) (q0 t0 : Nat) {cA : ClassId} {n : Nat} {f : Nat → Int32} (ha : ws[q0]? = some (a, .inl (cA, n, .inl f))) (ht : tys[t0]? = some (cA, .int)) {i : Int32} {x : Int32} (j : Nat) (hi : i.toInt = (j : Int)) (hj : j < n) (ws' : va_W) (hw : ws.set q0 (a, .inl (cA, n, .inl (upd f j x))) = ws') (hdg : decode cc pc = .ok (.iastore, 1))
    (kk : ∀ (H1 : Heap) (locs1 : List Loc), va_P D vwCl ws' H1 → va_D A ws' → va_S A H0 H1 locs1 → W p l e R s m args below meth c H1 locs1 cells slots Q (F0 m (pc + 1) ls rest)) : W p l e R s m args below meth c H locs cells slots Q (F0 m pc ls (.int x :: .int i :: .ref a :: rest)) := by
  subst hw
  refine va_iast hexec hb hK hP hD hS q0 t0 ha ht (t_in hi hj) hdg (fun H1 locs1 h1 h2 h3 => ?_)
  rw [t_k hi] at h1 h2
  exact kk H1 locs1 h1 h2 h3
theorem c_put (hexec : p.tables.exec = Jvm.exec) (hb : c.code = cc) {own ref C : String} {T : u_T} {N ci index : Nat} {Ts : List Cond} (hts : ∀ w ∈ Ts, w.before args s = true) (hin : ∀ w ∈ u_ws C T N, w ∈ Ts) (ty0 : Nat → FieldType) (hty : ∀ k, k < N → parseFieldDescriptor (T k).2.2.1 = some (ty0 k)) (hnm : ∀ a, a < N → ∀ b, b < N → a ≠ b → (T a).2.1 ≠ (T b).2.1) (hown : s.vm.findClass own = some m.cls) (hK : va_K D vwCl tys s) (hP : va_P D vwCl ws H) (hD : va_D A ws) (hS0 : va_S A H0 H locs) (q0 : Nat) {fs : List Value} (he : ws[q0]? = some (a, .inr (ci, fs))) (hc : vwCl[ci]? = some (C, T, N)) (k : Nat) (hk : k < N) (hlink : (Cond.fieldLink own index ref (T k).2.1 (T k).2.2.1).before args s = true) (hsame : ∀ x, s.fieldFound? (T k).1 (T k).2.1 (T k).2.2.1 = some x → s.fieldFound? ref (T k).2.1 (T k).2.2.1 = some x) (hfin : (T k).2.2.2 = false) {x : Int32} (hd : parseFieldDescriptor (T k).2.2.1 = some .int) (hl : k < fs.length) (ws' : va_W) (hw : ws.set q0 (a, .inr (ci, fs.set k (.int x))) = ws')
    (hdg : decode cc pc = .ok (.putfield index, 3)) (kk : ∀ (H1 : Heap) (locs1 : List Loc), va_P D vwCl ws' H1 → va_D A ws' → va_S A H0 H1 locs1 → W p l e R s m args below meth c H1 locs1 cells slots Q (F0 m (pc + 3) ls rest)) : W p l e R s m args below meth c H locs cells slots Q (F0 m pc ls (.int x :: .ref a :: rest)) := by
  subst hw
  exact va_put hexec hb hts hin ty0 hty hnm hown hK hP hD hS0 q0 he hc k hk hlink hsame hfin hd rfl rfl hl hdg kk
end KA
/-! contracts of one form: the world before, the world behind as a function of what is new -/
def cPre (D : va_G) (tys : List (ClassId × FieldType)) (wc : va_W) (sz : Nat) : State → Prop := fun U => U.heap.size = sz ∧ va_P D vwCl wc U.heap ∧ va_K D vwCl tys U ∧ va_D (fun _ => True) wc
def cB {S : Type} (D : va_G) (tys : List (ClassId × FieldType)) (A : Nat → Prop) (w1 : S → va_W) : S → State → Prop := fun u t => va_P D vwCl (w1 u) t.heap ∧ va_K D vwCl tys t ∧ va_D A (w1 u)
def MI {S : Type} (l : Launch) (y : MethodName) (ws : List Cond) (rm : Room) (D : va_G) (tys : List (ClassId × FieldType)) (av : List Value) (wc : va_W) (w1 : S → va_W) (post : Int32 → S → Prop) : Prop :=
  ∀ sz : Nat, Met l y ws rm (va_Pc av (cPre D tys wc sz)) (va_Qi post (cB D tys (va_A wc sz) w1) (va_A wc sz)) 0 0 (va_A wc sz)
def MV {S : Type} (l : Launch) (y : MethodName) (ws : List Cond) (rm : Room) (D : va_G) (tys : List (ClassId × FieldType)) (av : List Value) (wc : va_W) (w1 : S → va_W) (post : S → Prop) : Prop :=
  ∀ sz : Nat, Met l y ws rm (va_Pc av (cPre D tys wc sz)) (va_Qv post (cB D tys (va_A wc sz) w1) (va_A wc sz)) 0 0 (va_A wc sz)
theorem c_ent {l : Launch} {y : MethodName} {ws ws' : List Cond} {rm : Room} {cc : ByteArray} {maxL : Nat} {ret : Option FieldType} {D : va_G} {tys : List (ClassId × FieldType)} {av : List Value} {wc : va_W} {Qc : (Nat → Prop) → Array Value → State → Outcome → State → Prop}
    (hy : plainName y.cls = true) (hw : ws = Cond.code y cc maxL ret :: ws') (hlen : (lg_sl av).length ≤ maxL)
    (k : ∀ (p : Program) (e : Env) (s : State) (m : MethodId) (below : List Frame) (meth : Method) (c : Code) (A : Nat → Prop) (ls : Array Slot), p.tables.exec = Jvm.exec → c.code = cc → meth.sig.returnType = ret → meth.locks = false → (∀ w ∈ ws, w.before av.toArray s = true) → s.vm.findClass y.cls = some m.cls → c.maxLocals = maxL → va_K D vwCl tys s → va_P D vwCl wc s.heap → va_D A wc → (∀ q : Nat, s.heap.size ≤ q → A q) → lv_has ls maxL (lv_args 0 av) →
      W p l e rm s m av.toArray below meth c s.heap [] 0 0 (MQ below (Qc A) av.toArray s 0 0 A) (F0 m 0 ls [])) :
    ∀ sz : Nat, Met l y ws rm (va_Pc av (cPre D tys wc sz)) (Qc (va_A wc sz)) 0 0 (va_A wc sz) := by
  intro sz
  refine Met.ofW (cc := cc) (maxL := maxL) (ret := ret) hy hw ?_
  intro p e s m args below meth c s₁ B hml hv
  obtain ⟨rfl, hsz, hP, hK, hD0⟩ := hv
  subst hsz
  have hl := lv_entry av (n := maxL) hlen
  rw [lg_entry_eq]
  exact k p e s m below meth c (va_A wc s.heap.size) _ B.exec B.bytes B.returns B.notSynchronized (atoms_spec (ws := ws) B.pre) (findClass_of_methodNamed B.named) hml hK hP hD0.self (fun q h => Or.inr h) hl
section KC
variable {p : Program} {l : Launch} {e : Env} {R : Room} {s : State} {m : MethodId} {args : Array Value} {below : List Frame} {meth : Method} {c : Code} {H : Heap} {locs : List Loc} {cells slots : Nat} {Q : State → Prop} {cc : ByteArray} {pc : Nat} {ls : Array Slot} {rest st : List Value}
variable {D : va_G} {tys : List (ClassId × FieldType)} {A : Nat → Prop} {H0 : Heap} {S : Type} {w1 : S → va_W}
theorem c_ri {post : Int32 → S → Prop} {v : Int32} (u : S) (hexec : p.tables.exec = Jvm.exec) (hb : c.code = cc) (hr : meth.sig.returnType = some .int) (hlocks : meth.locks = false) (hK : va_K D vwCl tys s) (hP : va_P D vwCl (w1 u) H) (hD : va_D A (w1 u)) (hS : va_S A s.heap H locs) (hdg : decode cc pc = .ok (.ireturn, 1)) (hpost : post v u) :
    W p l e R s m args below meth c H locs 0 0 (MQ below (va_Qi post (cB D tys A w1) A) args s 0 0 A) (F0 m pc ls [.int v]) :=
  W.iret (v := v) hexec hb hr (fun t ht hW => ⟨⟨v, u, rfl, hpost, by rw [ht]; exact hP, va_K.moved hW.alike hK, hD⟩, hS.F ht⟩) hS.2.2 hdg hlocks
theorem c_rz {post : Int32 → S → Prop} {v : Int32} (u : S) (hexec : p.tables.exec = Jvm.exec) (hb : c.code = cc) (hr : meth.sig.returnType = some .boolean) (hlocks : meth.locks = false) (hK : va_K D vwCl tys s) (hP : va_P D vwCl (w1 u) H) (hD : va_D A (w1 u)) (hS : va_S A s.heap H locs) (hdg : decode cc pc = .ok (.ireturn, 1)) (hz : v.toInt = 0 ∨ v.toInt = 1) (hpost : post v u) :
    W p l e R s m args below meth c H locs 0 0 (MQ below (va_Qi post (cB D tys A w1) A) args s 0 0 A) (F0 m pc ls [.int v]) :=
  W.zret (v := v) hexec hb hr (t_zn hz) (fun t ht hW => ⟨⟨v, u, rfl, hpost, by rw [ht]; exact hP, va_K.moved hW.alike hK, hD⟩, hS.F ht⟩) hS.2.2 hdg hlocks
theorem c_rv {post : S → Prop} (u : S) (hexec : p.tables.exec = Jvm.exec) (hb : c.code = cc) (hr : meth.sig.returnType = none) (hlocks : meth.locks = false) (hK : va_K D vwCl tys s) (hP : va_P D vwCl (w1 u) H) (hD : va_D A (w1 u)) (hS : va_S A s.heap H locs) (hdg : decode cc pc = .ok (.return_, 1)) (hpost : post u) :
    W p l e R s m args below meth c H locs 0 0 (MQ below (va_Qv post (cB D tys A w1) A) args s 0 0 A) (F0 m pc ls []) :=
  W.vret hexec hb hr (fun t ht hW => ⟨⟨u, rfl, hpost, by rw [ht]; exact hP, va_K.moved hW.alike hK, hD⟩, hS.F ht⟩) hS.2.2 hdg hlocks
variable {y : MethodName} {bytes : ByteArray} {maxL nL n index : Nat} {ret : Option FieldType} {wsC : List Cond} {rm : Room} {Ts : List Cond} {own C : String} {b : Addr} {As : List Value} {ws wc wr : va_W} {wF : S → va_W}
theorem pr_blind {av : List Value} {tysc : List (ClassId × FieldType)} {sz : Nat} : FrameBlind (va_Pc av (cPre D tysc wc sz)) := by
  intro a U g mk q
  obtain ⟨q0, q1, qP, qK, qD⟩ := q
  exact ⟨q0, q1, qP, va_K.moved (u := U) (U := U.calling g mk a) (Vm.Alike.refl U.vm) qK, qD⟩
theorem pr_at {av : List Value} (hK : va_K D vwCl tys s) (hPc : va_P D vwCl wc H) (hDc : va_D A wc) : ∀ U : State, U.heap = H → s.WarmedH U.vm → va_Pc av (cPre D tys wc H.size) av.toArray U :=
  fun U hU hW => ⟨rfl, by rw [hU], by rw [hU]; exact hPc, va_K.moved hW.alike hK, hDc.weaken (fun _ _ _ _ => trivial)⟩
theorem pr_back {H1 : Heap} {u : S} {t : State} (hP : va_P D vwCl ws H) (hD : va_D A ws) (isC isR ks : List Nat) (hC : isC.map (fun i => ws[i]?) = wc.map some) (hR : isR.map (fun i => ws[i]?) = wr.map some) (hn : va_nd isR = true) (hdis : ∀ i ∈ isR, i ∉ isC)
    (hks : va_nd ks = true) (hF : ∀ u, ks.map (fun i => (wr ++ w1 u)[i]?) = (wF u).map some) (hk : ∀ q : Nat, q < H.size → ¬ va_A wc H.size q → H1[q]? = H[q]?) (hfr : ∀ q, va_A wc H.size q → A q) (ht : t.heap = H1) (hB : cB D tys (va_A wc H.size) w1 u t) : va_P D vwCl (wF u) H1 ∧ va_D A (wF u) := by
  obtain ⟨h1, -, h3⟩ := hB
  rw [ht] at h1
  obtain ⟨g1, g2⟩ := va_join hP hD isC isR hC hR hn hdis hk hfr h1 h3
  exact ⟨g1.sub ks (l_fm (hF u)), g2.sub ks hks (hF u)⟩
theorem c_cvi {post : Int32 → S → Prop} (hM : MI l y wsC rm D tys (.ref b :: As) wc w1 post) (fx : CallFix p m c cc nL s args Ts own) (cw : CallW R s args own C index y bytes maxL ret wsC rm 0 0 n)
    (hK : va_K D vwCl tys s) (hP : va_P D vwCl ws H) (hD : va_D A ws) (hS : va_S A H0 H locs) (hA : ∀ q, H0.size ≤ q → A q) (isC isR ks : List Nat) (hC : isC.map (fun i => ws[i]?) = wc.map some) (hnC : va_nd isC = true) (hR : isR.map (fun i => ws[i]?) = wr.map some) (hn : va_nd isR = true) (hdis : ∀ i ∈ isR, i ∉ isC) (hks : va_nd ks = true) (hF : ∀ u, ks.map (fun i => (wr ++ w1 u)[i]?) = (wF u).map some) {ci q0 : Nat} {q : vw_C} {fs : List Value} (hci : vwCl[ci]? = some q) (hq1 : q.1 = C) (he : wc[q0]? = some (b, .inr (ci, fs))) 
    (hlen : As.length = n) (hsz : ls.size = nL) (hst : st = As.reverse ++ .ref b :: rest) (hW : (rest.map fun v => v.category).sum ≤ 8) (hdg : decode cc pc = .ok (.invokevirtual index, 3)) (hf : cells ≤ R.cells ∧ slots ≤ R.slots)
    (kk : ∀ (r : Int32) (u : S) (H1 : Heap) (locs1 : List Loc), post r u → va_P D vwCl (wF u) H1 → va_D A (wF u) → va_S A H0 H1 locs1 → W p l e R s m args below meth c H1 locs1 cells slots Q (F0 m (pc + 3) ls (.int r :: rest))) :
    W p l e R s m args below meth c H locs cells slots Q (F0 m pc ls st) := by
  subst hq1
  have hPc : va_P D vwCl wc H := hP.sub isC (l_fm hC)
  have hDc : va_D A wc := hD.sub isC hnC hC
  have hFc := va_free (wc := wc) hD hS hA isC hC
  refine va_calli (va_runV (As := As) (rest := rest) fx (hM H.size) cw ⟨pr_blind, va_recv hK hPc hci he, pr_at hK hPc hDc⟩ rfl hlen hsz hst (lv_room hW) hdg ⟨hf.1, hf.2⟩) hS (fun q _ h => hFc q h) hFc (fun r u t H1 locs1 ht hvm hw hB hz1 hk1 hS1 => ?_)
  obtain ⟨g1, g2⟩ := pr_back hP hD isC isR ks hC hR hn hdis hks hF hk1 hFc ht hB
  exact kk r u H1 locs1 hw g1 g2 hS1
theorem c_cvv {post : S → Prop} (hM : MV l y wsC rm D tys (.ref b :: As) wc w1 post) (fx : CallFix p m c cc nL s args Ts own) (cw : CallW R s args own C index y bytes maxL ret wsC rm 0 0 n)
    (hK : va_K D vwCl tys s) (hP : va_P D vwCl ws H) (hD : va_D A ws) (hS : va_S A H0 H locs) (hA : ∀ q, H0.size ≤ q → A q) (isC isR ks : List Nat) (hC : isC.map (fun i => ws[i]?) = wc.map some) (hnC : va_nd isC = true) (hR : isR.map (fun i => ws[i]?) = wr.map some) (hn : va_nd isR = true) (hdis : ∀ i ∈ isR, i ∉ isC) (hks : va_nd ks = true) (hF : ∀ u, ks.map (fun i => (wr ++ w1 u)[i]?) = (wF u).map some) {ci q0 : Nat} {q : vw_C} {fs : List Value} (hci : vwCl[ci]? = some q) (hq1 : q.1 = C) (he : wc[q0]? = some (b, .inr (ci, fs))) 
    (hlen : As.length = n) (hsz : ls.size = nL) (hst : st = As.reverse ++ .ref b :: rest) (hW : (rest.map fun v => v.category).sum ≤ 8) (hdg : decode cc pc = .ok (.invokevirtual index, 3)) (hf : cells ≤ R.cells ∧ slots ≤ R.slots)
    (kk : ∀ (u : S) (H1 : Heap) (locs1 : List Loc), post u → va_P D vwCl (wF u) H1 → va_D A (wF u) → va_S A H0 H1 locs1 → W p l e R s m args below meth c H1 locs1 cells slots Q (F0 m (pc + 3) ls rest)) :
    W p l e R s m args below meth c H locs cells slots Q (F0 m pc ls st) := by
  subst hq1
  have hPc : va_P D vwCl wc H := hP.sub isC (l_fm hC)
  have hDc : va_D A wc := hD.sub isC hnC hC
  have hFc := va_free (wc := wc) hD hS hA isC hC
  refine va_callv (va_runV (As := As) (rest := rest) fx (hM H.size) cw ⟨pr_blind, va_recv hK hPc hci he, pr_at hK hPc hDc⟩ rfl hlen hsz hst (lv_room hW) hdg ⟨hf.1, hf.2⟩) hS (fun q _ h => hFc q h) hFc (fun u t H1 locs1 ht hvm hw hB hz1 hk1 hS1 => ?_)
  obtain ⟨g1, g2⟩ := pr_back hP hD isC isR ks hC hR hn hdis hks hF hk1 hFc ht hB
  exact kk u H1 locs1 hw g1 g2 hS1
theorem c_csi {post : Int32 → S → Prop} (hM : MI l y wsC rm D tys As wc w1 post) (fx : CallFix p m c cc nL s args Ts own) (cw : CallB R s args own index y bytes maxL ret wsC rm 0 0 n ∧ (Cond.static y).before args s = true)
    (hK : va_K D vwCl tys s) (hP : va_P D vwCl ws H) (hD : va_D A ws) (hS : va_S A H0 H locs) (hA : ∀ q, H0.size ≤ q → A q) (isC isR ks : List Nat) (hC : isC.map (fun i => ws[i]?) = wc.map some) (hnC : va_nd isC = true) (hR : isR.map (fun i => ws[i]?) = wr.map some) (hn : va_nd isR = true) (hdis : ∀ i ∈ isR, i ∉ isC) (hks : va_nd ks = true) (hF : ∀ u, ks.map (fun i => (wr ++ w1 u)[i]?) = (wF u).map some) 
    (hlen : As.length = n) (hsz : ls.size = nL) (hst : st = As.reverse ++ rest) (hW : (rest.map fun v => v.category).sum ≤ 8) (hdg : decode cc pc = .ok (.invokestatic index, 3)) (hf : cells ≤ R.cells ∧ slots ≤ R.slots)
    (kk : ∀ (r : Int32) (u : S) (H1 : Heap) (locs1 : List Loc), post r u → va_P D vwCl (wF u) H1 → va_D A (wF u) → va_S A H0 H1 locs1 → W p l e R s m args below meth c H1 locs1 cells slots Q (F0 m (pc + 3) ls (.int r :: rest))) :
    W p l e R s m args below meth c H locs cells slots Q (F0 m pc ls st) := by
  have hPc : va_P D vwCl wc H := hP.sub isC (l_fm hC)
  have hDc : va_D A wc := hD.sub isC hnC hC
  have hFc := va_free (wc := wc) hD hS hA isC hC
  refine va_calli (va_runS (As := As) (rest := rest) fx (hM H.size) cw ⟨pr_blind, pr_at hK hPc hDc⟩ rfl hlen hsz hst (lv_room hW) hdg ⟨hf.1, hf.2⟩) hS (fun q _ h => hFc q h) hFc (fun r u t H1 locs1 ht hvm hw hB hz1 hk1 hS1 => ?_)
  obtain ⟨g1, g2⟩ := pr_back hP hD isC isR ks hC hR hn hdis hks hF hk1 hFc ht hB
  exact kk r u H1 locs1 hw g1 g2 hS1
theorem c_csv {post : S → Prop} (hM : MV l y wsC rm D tys As wc w1 post) (fx : CallFix p m c cc nL s args Ts own) (cw : CallB R s args own index y bytes maxL ret wsC rm 0 0 n ∧ (Cond.static y).before args s = true)
    (hK : va_K D vwCl tys s) (hP : va_P D vwCl ws H) (hD : va_D A ws) (hS : va_S A H0 H locs) (hA : ∀ q, H0.size ≤ q → A q) (isC isR ks : List Nat) (hC : isC.map (fun i => ws[i]?) = wc.map some) (hnC : va_nd isC = true) (hR : isR.map (fun i => ws[i]?) = wr.map some) (hn : va_nd isR = true) (hdis : ∀ i ∈ isR, i ∉ isC) (hks : va_nd ks = true) (hF : ∀ u, ks.map (fun i => (wr ++ w1 u)[i]?) = (wF u).map some) 
    (hlen : As.length = n) (hsz : ls.size = nL) (hst : st = As.reverse ++ rest) (hW : (rest.map fun v => v.category).sum ≤ 8) (hdg : decode cc pc = .ok (.invokestatic index, 3)) (hf : cells ≤ R.cells ∧ slots ≤ R.slots)
    (kk : ∀ (u : S) (H1 : Heap) (locs1 : List Loc), post u → va_P D vwCl (wF u) H1 → va_D A (wF u) → va_S A H0 H1 locs1 → W p l e R s m args below meth c H1 locs1 cells slots Q (F0 m (pc + 3) ls rest)) :
    W p l e R s m args below meth c H locs cells slots Q (F0 m pc ls st) := by
  have hPc : va_P D vwCl wc H := hP.sub isC (l_fm hC)
  have hDc : va_D A wc := hD.sub isC hnC hC
  have hFc := va_free (wc := wc) hD hS hA isC hC
  refine va_callv (va_runS (As := As) (rest := rest) fx (hM H.size) cw ⟨pr_blind, pr_at hK hPc hDc⟩ rfl hlen hsz hst (lv_room hW) hdg ⟨hf.1, hf.2⟩) hS (fun q _ h => hFc q h) hFc (fun u t H1 locs1 ht hvm hw hB hz1 hk1 hS1 => ?_)
  obtain ⟨g1, g2⟩ := pr_back hP hD isC isR ks hC hR hn hdis hks hF hk1 hFc ht hB
  exact kk u H1 locs1 hw g1 g2 hS1
theorem c_wvi {post : Int32 → S → Prop} (hM : MI l y wsC rm D tys (.ref b :: As) ws w1 post) (fx : CallFix p m c cc nL s args Ts own) (cw : CallW R s args own C index y bytes maxL ret wsC rm 0 0 n)
    (hK : va_K D vwCl tys s) (hP : va_P D vwCl ws H) (hD : va_D A ws) (hS : va_S A H0 H locs) (hA : ∀ q, H0.size ≤ q → A q) {ci q0 : Nat} {q : vw_C} {fs : List Value} (hci : vwCl[ci]? = some q) (hq1 : q.1 = C) (he : ws[q0]? = some (b, .inr (ci, fs))) 
    (hlen : As.length = n) (hsz : ls.size = nL) (hst : st = As.reverse ++ .ref b :: rest) (hW : (rest.map fun v => v.category).sum ≤ 8) (hdg : decode cc pc = .ok (.invokevirtual index, 3)) (hf : cells ≤ R.cells ∧ slots ≤ R.slots)
    (kk : ∀ (r : Int32) (u : S) (H1 : Heap) (locs1 : List Loc), post r u → va_P D vwCl (w1 u) H1 → va_D A (w1 u) → va_S A H0 H1 locs1 → W p l e R s m args below meth c H1 locs1 cells slots Q (F0 m (pc + 3) ls (.int r :: rest))) :
    W p l e R s m args below meth c H locs cells slots Q (F0 m pc ls st) := by
  subst hq1
  have hPc : va_P D vwCl ws H := hP
  have hDc : va_D A ws := hD
  have hFc : ∀ q, va_A ws H.size q → A q := fun q h => h.elim (fun ⟨k, e9, hk⟩ => hD.2 k _ hk) (fun h => hA q (Nat.le_trans hS.1 h))
  refine va_calli (va_runV (As := As) (rest := rest) fx (hM H.size) cw ⟨pr_blind, va_recv hK hPc hci he, pr_at hK hPc hDc⟩ rfl hlen hsz hst (lv_room hW) hdg ⟨hf.1, hf.2⟩) hS (fun q _ h => hFc q h) hFc (fun r u t H1 locs1 ht hvm hw hB hz1 hk1 hS1 => ?_)
  obtain ⟨g1, -, g3⟩ := hB
  rw [ht] at g1
  exact kk r u H1 locs1 hw g1 (g3.weaken (fun k q _ h => hFc q.1 h)) hS1
theorem c_wvv {post : S → Prop} (hM : MV l y wsC rm D tys (.ref b :: As) ws w1 post) (fx : CallFix p m c cc nL s args Ts own) (cw : CallW R s args own C index y bytes maxL ret wsC rm 0 0 n)
    (hK : va_K D vwCl tys s) (hP : va_P D vwCl ws H) (hD : va_D A ws) (hS : va_S A H0 H locs) (hA : ∀ q, H0.size ≤ q → A q) {ci q0 : Nat} {q : vw_C} {fs : List Value} (hci : vwCl[ci]? = some q) (hq1 : q.1 = C) (he : ws[q0]? = some (b, .inr (ci, fs))) 
    (hlen : As.length = n) (hsz : ls.size = nL) (hst : st = As.reverse ++ .ref b :: rest) (hW : (rest.map fun v => v.category).sum ≤ 8) (hdg : decode cc pc = .ok (.invokevirtual index, 3)) (hf : cells ≤ R.cells ∧ slots ≤ R.slots)
    (kk : ∀ (u : S) (H1 : Heap) (locs1 : List Loc), post u → va_P D vwCl (w1 u) H1 → va_D A (w1 u) → va_S A H0 H1 locs1 → W p l e R s m args below meth c H1 locs1 cells slots Q (F0 m (pc + 3) ls rest)) :
    W p l e R s m args below meth c H locs cells slots Q (F0 m pc ls st) := by
  subst hq1
  have hPc : va_P D vwCl ws H := hP
  have hDc : va_D A ws := hD
  have hFc : ∀ q, va_A ws H.size q → A q := fun q h => h.elim (fun ⟨k, e9, hk⟩ => hD.2 k _ hk) (fun h => hA q (Nat.le_trans hS.1 h))
  refine va_callv (va_runV (As := As) (rest := rest) fx (hM H.size) cw ⟨pr_blind, va_recv hK hPc hci he, pr_at hK hPc hDc⟩ rfl hlen hsz hst (lv_room hW) hdg ⟨hf.1, hf.2⟩) hS (fun q _ h => hFc q h) hFc (fun u t H1 locs1 ht hvm hw hB hz1 hk1 hS1 => ?_)
  obtain ⟨g1, -, g3⟩ := hB
  rw [ht] at g1
  exact kk u H1 locs1 hw g1 (g3.weaken (fun k q _ h => hFc q.1 h)) hS1
theorem c_cpi {post : Int32 → Unit → Prop} (hM : MI l y wsC rm D tys As [] (fun _ : Unit => []) post) (fx : CallFix p m c cc nL s args Ts own) (cw : CallB R s args own index y bytes maxL ret wsC rm 0 0 n ∧ (Cond.static y).before args s = true)
    (hK : va_K D vwCl tys s) (hP : va_P D vwCl ws H) (hS : va_S A H0 H locs) (hA : ∀ q, H0.size ≤ q → A q)
    (hlen : As.length = n) (hsz : ls.size = nL) (hst : st = As.reverse ++ rest) (hW : (rest.map fun v => v.category).sum ≤ 8) (hdg : decode cc pc = .ok (.invokestatic index, 3)) (hf : cells ≤ R.cells ∧ slots ≤ R.slots)
    (kk : ∀ (r : Int32) (H1 : Heap) (locs1 : List Loc), post r () → va_P D vwCl ws H1 → va_S A H0 H1 locs1 → W p l e R s m args below meth c H1 locs1 cells slots Q (F0 m (pc + 3) ls (.int r :: rest))) :
    W p l e R s m args below meth c H locs cells slots Q (F0 m pc ls st) := by
  have hPc : va_P D vwCl [] H := fun k q h => by simp at h
  have hDc : va_D A [] := ⟨fun i j p q h => by simp at h, fun k q h => by simp at h⟩
  have hno : ∀ q, q < H.size → ¬ va_A [] H.size q := fun q hq h => h.elim (fun ⟨k, e9, hk⟩ => by simp at hk) (fun h => by omega)
  have hFc : ∀ q, va_A [] H.size q → A q := fun q h => h.elim (fun ⟨k, e9, hk⟩ => by simp at hk) (fun h => hA q (Nat.le_trans hS.1 h))
  refine va_calli (va_runS (As := As) (rest := rest) fx (hM H.size) cw ⟨pr_blind, pr_at hK hPc hDc⟩ rfl hlen hsz hst (lv_room hW) hdg ⟨hf.1, hf.2⟩) hS (fun q _ h => hFc q h) hFc (fun r u t H1 locs1 ht hvm hw hB hz1 hk1 hS1 => ?_)
  exact kk r H1 locs1 hw (hP.kept (fun k q hq => hk1 q.1 (hP k q hq).lt (hno q.1 (hP k q hq).lt))) hS1
end KC
end
section
/-! The state: worlds, rows, and what is said of them. -/
def up2 (f : Nat → Nat → Int32) (k j : Nat) (x : Int32) : Nat → Nat → Int32 := fun i => bif Nat.beq i k then upd (f k) j x else f i
def st2 (f : Nat → Nat → Int32) (k : Nat) (g : Nat → Int32) : Nat → Nat → Int32 := fun i => bif Nat.beq i k then g else f i
abbrev WA (cI : ClassId) (aa zl : Nat) (g : Nat → Int32) : va_W := [(aa, .inl (cI, zl, .inl g))]
abbrev WS (cI : ClassId) (ad : Nat → Nat) (lo hi : Nat → Int32) : va_W := [(ad 13, .inr (0, [.ref (ad 14), .ref (ad 15)])), (ad 14, .inl (cI, 186, .inl lo)), (ad 15, .inl (cI, 186, .inl hi))]
abbrev WX (cI : ClassId) (ad : Nat → Nat) (f : Nat → Nat → Int32) (lo hi : Nat → Int32) (T Dv C : Int32) : va_W :=
  [(ad 0, .inr (1, [.ref (ad 1), .ref (ad 2), .ref (ad 3), .ref (ad 4), .ref (ad 5), .ref (ad 6), .ref (ad 7), .ref (ad 8), .ref (ad 9), .ref (ad 10), .ref (ad 11), .ref (ad 12), .ref (ad 13), .int T, .int Dv, .int C])),
   (ad 1, .inl (cI, 6, .inl (f 0))), (ad 2, .inl (cI, 6, .inl (f 1))), (ad 3, .inl (cI, 6, .inl (f 2))), (ad 4, .inl (cI, 6, .inl (f 3))), (ad 5, .inl (cI, 360, .inl (f 4))), (ad 6, .inl (cI, 360, .inl (f 5))), (ad 7, .inl (cI, 2, .inl (f 6))), (ad 8, .inl (cI, 2, .inl (f 7))), (ad 9, .inl (cI, 20, .inl (f 8))), (ad 10, .inl (cI, 20, .inl (f 9))), (ad 11, .inl (cI, 20, .inl (f 10))), (ad 12, .inl (cI, 20, .inl (f 11))),
   (ad 13, .inr (0, [.ref (ad 14), .ref (ad 15)])), (ad 14, .inl (cI, 186, .inl lo)), (ad 15, .inl (cI, 186, .inl hi))]
abbrev oM (ad : Nat → Nat) (T Dv C th mo : Int32) : va_E := .inr (2, [.int T, .int Dv, .ref (ad 1), .ref (ad 2), .ref (ad 3), .ref (ad 4), .ref (ad 5), .ref (ad 6), .ref (ad 7), .ref (ad 8), .int C, .ref (ad 9), .ref (ad 10), .ref (ad 11), .ref (ad 12), .int th, .ref (ad 13), .ref (ad 14), .ref (ad 15), .ref (ad 16), .int mo])
abbrev WM (cI : ClassId) (ad : Nat → Nat) (f : Nat → Nat → Int32) (ah bk bo mv : Nat → Int32) (T Dv C th mo : Int32) : va_W :=
  [(ad 0, oM ad T Dv C th mo),
   (ad 1, .inl (cI, 6, .inl (f 0))), (ad 2, .inl (cI, 6, .inl (f 1))), (ad 3, .inl (cI, 6, .inl (f 2))), (ad 4, .inl (cI, 6, .inl (f 3))), (ad 5, .inl (cI, 360, .inl (f 4))), (ad 6, .inl (cI, 360, .inl (f 5))), (ad 7, .inl (cI, 2, .inl (f 6))), (ad 8, .inl (cI, 2, .inl (f 7))), (ad 9, .inl (cI, 20, .inl (f 8))), (ad 10, .inl (cI, 20, .inl (f 9))), (ad 11, .inl (cI, 20, .inl (f 10))), (ad 12, .inl (cI, 20, .inl (f 11))),
   (ad 13, .inl (cI, 366, .inl ah)), (ad 14, .inl (cI, 366, .inl bk)), (ad 15, .inl (cI, 366, .inl bo)), (ad 16, .inl (cI, 6, .inl mv))]
abbrev WC (cI : ClassId) (ad : Nat → Nat) (as : Nat) (T Dv C th mo : Int32) (sa : Nat → Int32) : va_W := [(ad 0, oM ad T Dv C th mo), (as, .inl (cI, 366, .inl sa))]
abbrev WH (cI : ClassId) (ad : Nat → Nat) (as : Nat) (f : Nat → Nat → Int32) (T Dv C th mo : Int32) (sa : Nat → Int32) : va_W :=
  [(ad 0, oM ad T Dv C th mo), (ad 9, .inl (cI, 20, .inl (f 8))), (ad 10, .inl (cI, 20, .inl (f 9))), (ad 11, .inl (cI, 20, .inl (f 10))), (ad 12, .inl (cI, 20, .inl (f 11))), (as, .inl (cI, 366, .inl sa))]
/-- a row of six: low and high of A, of B, of both -/
def rwX (lo hi : Nat → Int32) (a : Nat) : Nat → Int := fun i => match i with
  | 0 => (lo (3 * a)).toInt
  | 1 => (hi (3 * a)).toInt
  | 2 => (lo (3 * a + 1)).toInt
  | 3 => (hi (3 * a + 1)).toInt
  | 4 => (lo (3 * a + 2)).toInt
  | _ => (hi (3 * a + 2)).toInt
def rwM (s : Nat → Int32) (t : Nat) : Nat → Int := fun i => (s (6 * t + i)).toInt
/-- all six within -b .. b -/
def bd (r : Nat → Int) (b : Int) : Prop := (-b ≤ r 0 ∧ r 0 ≤ b) ∧ (-b ≤ r 1 ∧ r 1 ≤ b) ∧ (-b ≤ r 2 ∧ r 2 ≤ b) ∧ (-b ≤ r 3 ∧ r 3 ≤ b) ∧ (-b ≤ r 4 ∧ r 4 ≤ b) ∧ (-b ≤ r 5 ∧ r 5 ≤ b)
def eq6 (r q : Nat → Int) : Prop := r 0 = q 0 ∧ r 1 = q 1 ∧ r 2 = q 2 ∧ r 3 = q 3 ∧ r 4 = q 4 ∧ r 5 = q 5
def inR (r : Nat → Int) (a b : Int) : Prop := r 0 ≤ a ∧ a ≤ r 1 ∧ r 2 ≤ b ∧ b ≤ r 3 ∧ r 4 ≤ a + b ∧ a + b ≤ r 5
def ok6 (r : Nat → Int) : Prop := r 0 ≤ r 1 ∧ r 2 ≤ r 3 ∧ r 4 ≤ r 5
def tgt (r : Nat → Int) : Prop := ok6 r ∧ r 4 - r 3 ≤ r 0 ∧ r 1 ≤ r 5 - r 2 ∧ r 4 - r 1 ≤ r 2 ∧ r 3 ≤ r 5 - r 0 ∧ r 0 + r 2 ≤ r 4 ∧ r 5 ≤ r 1 + r 3
/-- q is r, drawn in once by the old ends -/
def isTg (q r : Nat → Int) : Prop := q 0 = max (r 0) (r 4 - r 3) ∧ q 1 = min (r 1) (r 5 - r 2) ∧ q 2 = max (r 2) (r 4 - r 1) ∧ q 3 = min (r 3) (r 5 - r 0) ∧ q 4 = max (r 4) (r 0 + r 2) ∧ q 5 = min (r 5) (r 1 + r 3)
/-- q is r, drawn in once, each end by the newest -/
def isCl (q r : Nat → Int) : Prop := q 0 = max (r 0) (r 4 - r 3) ∧ q 1 = min (r 1) (r 5 - r 2) ∧ q 2 = max (r 2) (r 4 - q 1) ∧ q 3 = min (r 3) (r 5 - q 0) ∧ q 4 = max (r 4) (q 0 + q 2) ∧ q 5 = min (r 5) (q 1 + q 3)
/-- the row r is tight, and holds the pairs P -/
def Tt (r : Nat → Int) (P : Int → Int → Prop) : Prop := tgt r ∧ ∀ a b, inR r a b ↔ P a b
theorem tg_same {q r : Nat → Int} (h : isTg q r) (a b : Int) : inR q a b ↔ inR r a b := by
  unfold isTg at h; unfold inR; omega
theorem cl_same {q r : Nat → Int} (h : isCl q r) (a b : Int) : inR q a b ↔ inR r a b := by
  unfold isCl at h; unfold inR; omega
theorem tg_tgt {q r : Nat → Int} (h : isTg q r) (hok : ok6 q) : tgt q := by
  obtain ⟨h0, h1, h2, h3, h4, h5⟩ := h
  unfold ok6 at hok; unfold tgt ok6
  refine ⟨hok, ?_, ?_, ?_, ?_, ?_, ?_⟩ <;> omega
theorem cl_tgt {q r : Nat → Int} (h : isCl q r) (hok : ok6 q) : tgt q := by
  obtain ⟨h0, h1, h2, h3, h4, h5⟩ := h
  unfold ok6 at hok; unfold tgt ok6
  refine ⟨hok, ?_, ?_, ?_, ?_, ?_, ?_⟩ <;> omega
theorem in_ok {r : Nat → Int} {a b : Int} (h : inR r a b) : ok6 r := by unfold inR at h; unfold ok6; omega
theorem tgt_pt {r : Nat → Int} (h : tgt r) : ∃ a b, inR r a b := by
  refine ⟨r 0, r 4 - r 0, ?_⟩
  unfold tgt ok6 at h; unfold inR; omega
theorem Tt.some {r : Nat → Int} {P : Int → Int → Prop} (h : Tt r P) : ∃ a b, P a b := by
  obtain ⟨a, b, q⟩ := tgt_pt h.1
  exact ⟨a, b, (h.2 a b).mp q⟩
/-- a tight row is told by its pairs -/
theorem tgt_uniq {r q : Nat → Int} (hr : tgt r) (hq : tgt q) (h : ∀ a b, inR r a b ↔ inR q a b) : eq6 r q := by
  have key : ∀ {x y : Nat → Int}, tgt x → (∀ a b, inR x a b → inR y a b) → y 0 ≤ x 0 ∧ x 1 ≤ y 1 ∧ y 2 ≤ x 2 ∧ x 3 ≤ y 3 ∧ y 4 ≤ x 4 ∧ x 5 ≤ y 5 := by
    intro x y hx hxy
    unfold tgt ok6 at hx; unfold inR at hxy
    have p0 := hxy (x 0) (x 4 - x 0) (by omega)
    have p1 := hxy (x 1) (x 5 - x 1) (by omega)
    have p2 := hxy (x 4 - x 2) (x 2) (by omega)
    have p3 := hxy (x 5 - x 3) (x 3) (by omega)
    omega
  have h1 := key hr (fun a b => (h a b).mp)
  have h2 := key hq (fun a b => (h a b).mpr)
  unfold eq6; omega
theorem Tt.uniq {r q : Nat → Int} {P : Int → Int → Prop} (hr : Tt r P) (hq : Tt q P) : eq6 r q := tgt_uniq hr.1 hq.1 (fun a b => (hr.2 a b).trans (hq.2 a b).symm)
theorem Tt.congr {r : Nat → Int} {P P' : Int → Int → Prop} (hr : Tt r P) (h : ∀ a b, P a b ↔ P' a b) : Tt r P' := ⟨hr.1, fun a b => (hr.2 a b).trans (h a b)⟩
theorem Tt.cg {r q : Nat → Int} {P : Int → Int → Prop} (hr : Tt r P) (h : eq6 q r) : Tt q P := by
  refine ⟨?_, fun a b => ?_⟩
  · have := hr.1; unfold tgt ok6 at *; unfold eq6 at h; omega
  · rw [← hr.2 a b]; unfold inR; unfold eq6 at h; omega
/-- the sum of two tight rows, span by span, holds just the sums -/
theorem sum_ex {x y z : Nat → Int} (hx : tgt x) (hy : tgt y) (hz : z 0 = x 0 + y 0 ∧ z 1 = x 1 + y 1 ∧ z 2 = x 2 + y 2 ∧ z 3 = x 3 + y 3 ∧ z 4 = x 4 + y 4 ∧ z 5 = x 5 + y 5) (a b : Int) : inR z a b ↔ ∃ a' b', inR x a' b' ∧ inR y (a - a') (b - b') := by
  constructor
  · intro h
    unfold tgt ok6 at hx hy; unfold inR at h
    obtain ⟨LA, hLA⟩ : ∃ v, v = max (x 0) (a - y 1) := ⟨_, rfl⟩
    obtain ⟨UA, hUA⟩ : ∃ v, v = min (x 1) (a - y 0) := ⟨_, rfl⟩
    obtain ⟨LB, hLB⟩ : ∃ v, v = max (x 2) (b - y 3) := ⟨_, rfl⟩
    obtain ⟨UB, hUB⟩ : ∃ v, v = min (x 3) (b - y 2) := ⟨_, rfl⟩
    obtain ⟨LS, hLS⟩ : ∃ v, v = max (x 4) (a + b - y 5) := ⟨_, rfl⟩
    obtain ⟨US, hUS⟩ : ∃ v, v = min (x 5) (a + b - y 4) := ⟨_, rfl⟩
    have g1 : LA ≤ UA := by omega
    have g2 : LB ≤ UB := by omega
    have g3 : LS ≤ US := by omega
    have g4 : LA + LB ≤ US := by omega
    have g5 : LS ≤ UA + UB := by omega
    obtain ⟨a', ha'⟩ : ∃ v, v = max LA (LS - UB) := ⟨_, rfl⟩
    obtain ⟨b', hb'⟩ : ∃ v, v = max LB (LS - a') := ⟨_, rfl⟩
    have e1 : LA ≤ a' ∧ a' ≤ UA := by omega
    have e2 : LB ≤ b' ∧ b' ≤ UB := by omega
    have e3 : LS ≤ a' + b' ∧ a' + b' ≤ US := by omega
    refine ⟨a', b', ?_, ?_⟩
    · unfold inR; omega
    · unfold inR; omega
  · rintro ⟨a', b', h1, h2⟩
    unfold inR at *; omega
/-- the difference -/
theorem dif_ex {x y z : Nat → Int} (hx : tgt x) (hy : tgt y) (hz : z 0 = x 0 - y 1 ∧ z 1 = x 1 - y 0 ∧ z 2 = x 2 - y 3 ∧ z 3 = x 3 - y 2 ∧ z 4 = x 4 - y 5 ∧ z 5 = x 5 - y 4) (a b : Int) : inR z a b ↔ ∃ a' b', inR y a' b' ∧ inR x (a + a') (b + b') := by
  let y' : Nat → Int := fun i => match i with
    | 0 => - y 1 | 1 => - y 0 | 2 => - y 3 | 3 => - y 2 | 4 => - y 5 | _ => - y 4
  have hy' : tgt y' := by unfold tgt ok6 at *; show (- y 1 ≤ - y 0 ∧ - y 3 ≤ - y 2 ∧ - y 5 ≤ - y 4) ∧ - y 5 - - y 2 ≤ - y 1 ∧ - y 0 ≤ - y 4 - - y 3 ∧ - y 5 - - y 0 ≤ - y 3 ∧ - y 2 ≤ - y 4 - - y 1 ∧ - y 1 + - y 3 ≤ - y 5 ∧ - y 4 ≤ - y 0 + - y 2; omega
  have h := sum_ex hy' hx (z := z) (by show z 0 = - y 1 + x 0 ∧ z 1 = - y 0 + x 1 ∧ z 2 = - y 3 + x 2 ∧ z 3 = - y 2 + x 3 ∧ z 4 = - y 5 + x 4 ∧ z 5 = - y 4 + x 5; omega) a b
  rw [h]
  constructor
  · rintro ⟨a', b', h1, h2⟩
    refine ⟨-a', -b', ?_, ?_⟩
    · have h1' : - y 1 ≤ a' ∧ a' ≤ - y 0 ∧ - y 3 ≤ b' ∧ b' ≤ - y 2 ∧ - y 5 ≤ a' + b' ∧ a' + b' ≤ - y 4 := h1
      unfold inR; omega
    · unfold inR at *; omega
  · rintro ⟨a', b', h1, h2⟩
    refine ⟨-a', -b', ?_, ?_⟩
    · show - y 1 ≤ -a' ∧ -a' ≤ - y 0 ∧ - y 3 ≤ -b' ∧ -b' ≤ - y 2 ∧ - y 5 ≤ -a' + -b' ∧ -a' + -b' ≤ - y 4
      unfold inR at h1; omega
    · unfold inR at *; omega
theorem bd_at {lo hi : Nat → Int32} {b k : Nat} {B : Int} (h : bd (rwX lo hi b) B) (hk : k ≤ 2) : (-B ≤ (lo (3 * b + k)).toInt ∧ (lo (3 * b + k)).toInt ≤ B) ∧ (-B ≤ (hi (3 * b + k)).toInt ∧ (hi (3 * b + k)).toInt ≤ B) := by
  obtain ⟨h0, h1, h2, h3, h4, h5⟩ := h
  rcases (show k = 0 ∨ k = 1 ∨ k = 2 by omega) with rfl | rfl | rfl
  · exact ⟨h0, h1⟩
  · exact ⟨h2, h3⟩
  · exact ⟨h4, h5⟩
theorem up3 (lo : Nat → Int32) (a : Nat) (x y z : Int32) : (upd (upd (upd lo (3 * a + 0) x) (3 * a + 1) y) (3 * a + 2) z (3 * a + 0) = x ∧ upd (upd (upd lo (3 * a + 0) x) (3 * a + 1) y) (3 * a + 2) z (3 * a + 1) = y ∧ upd (upd (upd lo (3 * a + 0) x) (3 * a + 1) y) (3 * a + 2) z (3 * a + 2) = z) ∧ ∀ j, (j < 3 * a ∨ 3 * a + 3 ≤ j) → upd (upd (upd lo (3 * a + 0) x) (3 * a + 1) y) (3 * a + 2) z j = lo j := by
  refine ⟨⟨?_, ?_, ?_⟩, fun j hj => ?_⟩
  · rw [pk_un (by omega), pk_un (by omega), pk_us]
  · rw [pk_un (by omega), pk_us]
  · rw [pk_us]
  · rw [pk_un (by omega), pk_un (by omega), pk_un (by omega)]
/-- z is x and y, span by span -/
def sm6 (z x y : Nat → Int) : Prop := z 0 = x 0 + y 0 ∧ z 1 = x 1 + y 1 ∧ z 2 = x 2 + y 2 ∧ z 3 = x 3 + y 3 ∧ z 4 = x 4 + y 4 ∧ z 5 = x 5 + y 5
/-- z is r, cut by x less y -/
def cd6 (z r x y : Nat → Int) : Prop := z 0 = max (r 0) (x 0 - y 1) ∧ z 1 = min (r 1) (x 1 - y 0) ∧ z 2 = max (r 2) (x 2 - y 3) ∧ z 3 = min (r 3) (x 3 - y 2) ∧ z 4 = max (r 4) (x 4 - y 5) ∧ z 5 = min (r 5) (x 5 - y 4)
/-- max and min, said so that no row splits on them unasked -/
def isMx (z x y : Int) : Prop := z = max x y
def isMn (z x y : Int) : Prop := z = min x y
end
section
/-! The bench's own mathematics: what may pass, the change of a TICK, the sets of pairs. -/
def Inv (f : Nat → Nat → Int32) (Tn Dn Cn : Nat) : Prop :=
  (1 ≤ Tn ∧ Tn ≤ 60 ∧ Dn ≤ 6 ∧ Cn ≤ 20) ∧
  (∀ d, d < Dn → (0 ≤ (f 0 d).toInt ∧ (f 0 d).toInt ≤ 2) ∧ (0 ≤ (f 1 d).toInt ∧ (f 1 d).toInt ≤ 5) ∧ (0 ≤ (f 2 d).toInt ∧ (f 2 d).toInt ≤ 5) ∧ (0 ≤ (f 3 d).toInt ∧ (f 3 d).toInt ≤ 20)) ∧
  (∀ j, j < 360 → ((f 4 j).toInt = -1 ∧ (f 5 j).toInt = -1) ∨ ((0 ≤ (f 4 j).toInt ∧ (f 4 j).toInt ≤ 20) ∧ (0 ≤ (f 5 j).toInt ∧ (f 5 j).toInt ≤ 20))) ∧
  (∀ h, h < 2 → 0 ≤ (f 6 h).toInt ∧ (f 6 h).toInt ≤ (f 7 h).toInt ∧ (f 7 h).toInt ≤ 9999) ∧
  (∀ q, q < Cn → (0 ≤ (f 8 q).toInt ∧ (f 8 q).toInt ≤ 60) ∧ (0 ≤ (f 9 q).toInt ∧ (f 9 q).toInt ≤ 2) ∧ 0 ≤ (f 10 q).toInt ∧ (f 10 q).toInt ≤ (f 11 q).toInt ∧ (f 11 q).toInt ≤ 9999)
def lsP (db mr tl : Int) : Int := if tl < 0 then 0 else max 0 (tl - db - mr)
def msP (cp ms mr tl : Int) : Int := if tl < 0 then cp else tl + ms + mr
def nLo (f : Nat → Nat → Int32) (d t : Nat) (mr : Int) : Int := lsP (f 2 d).toInt mr (f 4 (60 * d + t)).toInt - msP (f 3 d).toInt (f 1 d).toInt mr (f 5 (60 * d + t)).toInt
def nHi (f : Nat → Nat → Int32) (d t : Nat) (mr : Int) : Int := msP (f 3 d).toInt (f 1 d).toInt mr (f 4 (60 * d + t)).toInt - lsP (f 2 d).toInt mr (f 5 (60 * d + t)).toInt
theorem n_bd {f : Nat → Nat → Int32} {Tn Dn Cn d t : Nat} {mr : Int} (hI : Inv f Tn Dn Cn) (hd : d < Dn) (ht : t < Tn) (h0 : 0 ≤ mr) (h5 : mr ≤ 5) : -30 ≤ nLo f d t mr ∧ nLo f d t mr ≤ nHi f d t mr ∧ nHi f d t mr ≤ 30 := by
  obtain ⟨hb, hdo, hto, -⟩ := hI
  have h1 := hdo d hd
  have h2 := hto (60 * d + t) (by omega)
  unfold nLo nHi lsP msP
  by_cases g4 : (f 4 (60 * d + t)).toInt < 0
  · by_cases g5 : (f 5 (60 * d + t)).toInt < 0
    · simp only [if_pos g4, if_pos g5]; omega
    · exfalso; omega
  · by_cases g5 : (f 5 (60 * d + t)).toInt < 0
    · exfalso; omega
    · simp only [if_neg g4, if_neg g5]; omega
/-- what the doors 0 .. d - 1 (but one) can move at a tick: outside to A, outside to B, A to B; least and most of each -/
def mvs (f : Nat → Nat → Int32) (t : Nat) (mr but : Int) : Nat → Nat → Int
  | 0 => fun _ => 0
  | d + 1 => fun i => mvs f t mr but d i + (if (d : Int) = but then 0 else if (i : Int) = 2 * (f 0 d).toInt then nLo f d t mr else if (i : Int) = 2 * (f 0 d).toInt + 1 then nHi f d t mr else 0)
def crow (m : Nat → Int) : Nat → Int := fun i => match i with
  | 0 => m 0 - m 5
  | 1 => m 1 - m 4
  | 2 => m 2 + m 4
  | 3 => m 3 + m 5
  | 4 => m 0 + m 2
  | _ => m 1 + m 3
/-- one door more -/
def ad6 (z r : Nat → Int) (k l m : Int) : Prop :=
  (k = 0 ∧ z 0 = r 0 + l ∧ z 1 = r 1 + m ∧ z 2 = r 2 ∧ z 3 = r 3 ∧ z 4 = r 4 + l ∧ z 5 = r 5 + m) ∨
  (k = 1 ∧ z 0 = r 0 ∧ z 1 = r 1 ∧ z 2 = r 2 + l ∧ z 3 = r 3 + m ∧ z 4 = r 4 + l ∧ z 5 = r 5 + m) ∨
  (k = 2 ∧ z 0 = r 0 - m ∧ z 1 = r 1 - l ∧ z 2 = r 2 + l ∧ z 3 = r 3 + m ∧ z 4 = r 4 ∧ z 5 = r 5)
def mv6 (z r : Nat → Int) (k l m : Int) : Prop :=
  (k = 0 ∧ z 0 = r 0 + l ∧ z 1 = r 1 + m ∧ z 2 = r 2 ∧ z 3 = r 3 ∧ z 4 = r 4 ∧ z 5 = r 5) ∨
  (k = 1 ∧ z 0 = r 0 ∧ z 1 = r 1 ∧ z 2 = r 2 + l ∧ z 3 = r 3 + m ∧ z 4 = r 4 ∧ z 5 = r 5) ∨
  (k = 2 ∧ z 0 = r 0 ∧ z 1 = r 1 ∧ z 2 = r 2 ∧ z 3 = r 3 ∧ z 4 = r 4 + l ∧ z 5 = r 5 + m)
theorem mvs_but {f : Nat → Nat → Int32} {t d : Nat} {mr but : Int} (h : (d : Int) = but) (i : Nat) : mvs f t mr but (d + 1) i = mvs f t mr but d i := by
  show mvs f t mr but d i + _ = _
  rw [if_pos h]; omega
theorem mvs_st {f : Nat → Nat → Int32} {t d : Nat} {mr but : Int} (h : (d : Int) ≠ but) (hk : 0 ≤ (f 0 d).toInt ∧ (f 0 d).toInt ≤ 2) : mv6 (mvs f t mr but (d + 1)) (mvs f t mr but d) (f 0 d).toInt (nLo f d t mr) (nHi f d t mr) := by
  have e : ∀ i : Nat, mvs f t mr but (d + 1) i = mvs f t mr but d i + (if (i : Int) = 2 * (f 0 d).toInt then nLo f d t mr else if (i : Int) = 2 * (f 0 d).toInt + 1 then nHi f d t mr else 0) := by
    intro i
    show mvs f t mr but d i + _ = _
    rw [if_neg h]
  unfold mv6
  rcases (show (f 0 d).toInt = 0 ∨ (f 0 d).toInt = 1 ∨ (f 0 d).toInt = 2 by omega) with k | k | k
  · left
    refine ⟨k, ?_⟩
    simp only [e, k]; simp
  · right; left
    refine ⟨k, ?_⟩
    simp only [e, k]; simp
  · right; right
    refine ⟨k, ?_⟩
    simp only [e, k]; simp
theorem crow_e (m : Nat → Int) : crow m 0 = m 0 - m 5 ∧ crow m 1 = m 1 - m 4 ∧ crow m 2 = m 2 + m 4 ∧ crow m 3 = m 3 + m 5 ∧ crow m 4 = m 0 + m 2 ∧ crow m 5 = m 1 + m 3 := ⟨rfl, rfl, rfl, rfl, rfl, rfl⟩
theorem crow_but {f : Nat → Nat → Int32} {t d : Nat} {mr but : Int} (h : (d : Int) = but) : eq6 (crow (mvs f t mr but (d + 1))) (crow (mvs f t mr but d)) := by
  have a := crow_e (mvs f t mr but (d + 1)); have b := crow_e (mvs f t mr but d)
  simp only [mvs_but h] at a
  unfold eq6; omega
theorem crow_st {f : Nat → Nat → Int32} {t d : Nat} {mr but : Int} (h : (d : Int) ≠ but) (hk : 0 ≤ (f 0 d).toInt ∧ (f 0 d).toInt ≤ 2) : ad6 (crow (mvs f t mr but (d + 1))) (crow (mvs f t mr but d)) (f 0 d).toInt (nLo f d t mr) (nHi f d t mr) := by
  have a := crow_e (mvs f t mr but (d + 1)); have b := crow_e (mvs f t mr but d)
  have q := mvs_st (t := t) (mr := mr) h hk
  unfold mv6 at q; unfold ad6; omega
theorem ad6_eq {z r z' r' : Nat → Int} {k l m : Int} (h : ad6 z r k l m) (h' : ad6 z' r' k l m) (e : eq6 r r') : eq6 z z' := by
  unfold ad6 at h h'; unfold eq6 at *; omega
theorem mvs_bd {f : Nat → Nat → Int32} {Tn Dn Cn t : Nat} {mr but : Int} (hI : Inv f Tn Dn Cn) (ht : t < Tn) (h0 : 0 ≤ mr) (h5 : mr ≤ 5) : ∀ d, d ≤ Dn → (mvs f t mr but d 0 ≤ mvs f t mr but d 1 ∧ mvs f t mr but d 2 ≤ mvs f t mr but d 3 ∧ mvs f t mr but d 4 ≤ mvs f t mr but d 5) ∧ ∀ i, i < 6 → -(30 * d) ≤ mvs f t mr but d i ∧ mvs f t mr but d i ≤ 30 * d := by
  intro d
  induction d with
  | zero => intro _; exact ⟨⟨Int.le_refl 0, Int.le_refl 0, Int.le_refl 0⟩, fun i _ => ⟨by show -(30 * (0 : Int)) ≤ 0; omega, by show (0 : Int) ≤ 30 * (0 : Int); omega⟩⟩
  | succ d ih =>
    intro hd
    obtain ⟨⟨g1, g2, g3⟩, gb⟩ := ih (by omega)
    have hn := n_bd (mr := mr) hI (show d < Dn by omega) ht h0 h5
    have hk := (hI.2.1 d (by omega)).1
    by_cases hb : (d : Int) = but
    · refine ⟨?_, fun i hi => ?_⟩
      · simp only [mvs_but hb]; exact ⟨g1, g2, g3⟩
      · have := gb i hi
        rw [mvs_but hb]; omega
    · have q := mvs_st (t := t) (mr := mr) hb hk
      have b0 := gb 0 (by omega); have b1 := gb 1 (by omega); have b2 := gb 2 (by omega); have b3 := gb 3 (by omega); have b4 := gb 4 (by omega); have b5 := gb 5 (by omega)
      unfold mv6 at q
      refine ⟨by omega, fun i hi => ?_⟩
      rcases (show i = 0 ∨ i = 1 ∨ i = 2 ∨ i = 3 ∨ i = 4 ∨ i = 5 by omega) with rfl | rfl | rfl | rfl | rfl | rfl <;> omega
theorem crow_tgt {m : Nat → Int} (h : m 0 ≤ m 1 ∧ m 2 ≤ m 3 ∧ m 4 ≤ m 5) : tgt (crow m) := by
  have a := crow_e m
  unfold tgt ok6; omega
theorem crow_bd {f : Nat → Nat → Int32} {Tn Dn Cn t : Nat} {mr but : Int} (hI : Inv f Tn Dn Cn) (ht : t < Tn) (h0 : 0 ≤ mr) (h5 : mr ≤ 5) (d : Nat) (hd : d ≤ Dn) : tgt (crow (mvs f t mr but d)) ∧ bd (crow (mvs f t mr but d)) 360 := by
  obtain ⟨g, gb⟩ := mvs_bd (but := but) hI ht h0 h5 d hd
  have a := crow_e (mvs f t mr but d)
  have hD := hI.1
  have b0 := gb 0 (by omega); have b1 := gb 1 (by omega); have b2 := gb 2 (by omega); have b3 := gb 3 (by omega); have b4 := gb 4 (by omega); have b5 := gb 5 (by omega)
  refine ⟨crow_tgt g, ?_⟩
  unfold bd; omega
/-- what the check q asks -/
def chk (f : Nat → Nat → Int32) (q : Nat) (a b : Int) : Prop :=
  ((f 9 q).toInt = 0 ∧ (f 10 q).toInt ≤ a ∧ a ≤ (f 11 q).toInt) ∨ ((f 9 q).toInt = 1 ∧ (f 10 q).toInt ≤ b ∧ b ≤ (f 11 q).toInt) ∨ ((f 9 q).toInt = 2 ∧ (f 10 q).toInt ≤ a + b ∧ a + b ≤ (f 11 q).toInt)
/-- not below 0, and the checks 0 .. q - 1 of the time t hold -/
def alw (f : Nat → Nat → Int32) (t : Nat) : Nat → Int → Int → Prop
  | 0 => fun a b => 0 ≤ a ∧ 0 ≤ b
  | q + 1 => fun a b => alw f t q a b ∧ ((f 8 q).toInt = (t : Int) → chk f q a b)
theorem alw_0 {f : Nat → Nat → Int32} {t : Nat} {a b : Int} : ∀ q, alw f t q a b → 0 ≤ a ∧ 0 ≤ b
  | 0, h => h
  | q + 1, h => alw_0 q h.1
/-- forward: what can be inside at the time t, by what is told up to it -/
def Fw (f : Nat → Nat → Int32) (Dn Cn : Nat) (mr : Int) : Nat → Int → Int → Prop
  | 0 => fun a b => (((f 6 0).toInt ≤ a ∧ a ≤ (f 7 0).toInt) ∧ ((f 6 1).toInt ≤ b ∧ b ≤ (f 7 1).toInt)) ∧ alw f 0 Cn a b
  | t + 1 => fun a b => (∃ a' b', Fw f Dn Cn mr t a' b' ∧ inR (crow (mvs f t mr (-1) Dn)) (a - a') (b - b')) ∧ alw f (t + 1) Cn a b
theorem Fw_alw {f : Nat → Nat → Int32} {Dn Cn : Nat} {mr : Int} {t : Nat} {a b : Int} (h : Fw f Dn Cn mr t a b) : alw f t Cn a b := by
  cases t with
  | zero => exact h.2
  | succ t => exact h.2
/-- no truth -/
def noT (f : Nat → Nat → Int32) (Tn Dn Cn : Nat) (mr : Int) : Prop := ∃ t, t ≤ Tn ∧ ∀ a b, ¬ Fw f Dn Cn mr t a b
/-- in a truth, n times before the last -/
def Trv (f : Nat → Nat → Int32) (Tn Dn Cn : Nat) : Nat → Int → Int → Prop
  | 0 => Fw f Dn Cn 0 Tn
  | n + 1 => fun a b => Fw f Dn Cn 0 (Tn - (n + 1)) a b ∧ ∃ a' b', inR (crow (mvs f (Tn - (n + 1)) 0 (-1) Dn)) a' b' ∧ Trv f Tn Dn Cn n (a + a') (b + b')
/-- backward, n times before the last: what can lead to the end -/
def Bkv (f : Nat → Nat → Int32) (Tn Dn Cn : Nat) : Nat → Int → Int → Prop
  | 0 => fun a b => (a ≤ 1000000 ∧ b ≤ 1000000 ∧ a + b ≤ 1000000) ∧ alw f Tn Cn a b
  | n + 1 => fun a b => (∃ a' b', inR (crow (mvs f (Tn - (n + 1)) 0 (-1) Dn)) a' b' ∧ Bkv f Tn Dn Cn n (a + a') (b + b')) ∧ alw f (Tn - (n + 1)) Cn a b
theorem Bkv_alw {f : Nat → Nat → Int32} {Tn Dn Cn : Nat} {n : Nat} {a b : Int} (h : Bkv f Tn Dn Cn n a b) : alw f (Tn - n) Cn a b := by
  cases n with
  | zero => exact h.2
  | succ n => exact h.2
theorem Trv_eq {f : Nat → Nat → Int32} {Tn Dn Cn : Nat} (hbd : ∀ a b, Fw f Dn Cn 0 Tn a b → a + b ≤ 1000000) : ∀ n, n ≤ Tn → ∀ a b, Trv f Tn Dn Cn n a b ↔ Fw f Dn Cn 0 (Tn - n) a b ∧ Bkv f Tn Dn Cn n a b := by
  intro n
  induction n with
  | zero =>
    intro _ a b
    constructor
    · intro h
      have h1 := Fw_alw h; have h2 := alw_0 _ h1; have h3 := hbd a b h
      exact ⟨h, ⟨by omega, by omega, h3⟩, h1⟩
    · intro h; exact h.1
  | succ n ih =>
    intro hn a b
    constructor
    · rintro ⟨h1, a', b', h2, h3⟩
      exact ⟨h1, ⟨a', b', h2, ((ih (by omega) _ _).mp h3).2⟩, Fw_alw h1⟩
    · rintro ⟨h1, ⟨a', b', h2, h3⟩, h4⟩
      refine ⟨h1, a', b', h2, (ih (by omega) _ _).mpr ⟨?_, h3⟩⟩
      have e : Tn - n = (Tn - (n + 1)) + 1 := by omega
      rw [e]
      refine ⟨⟨a, b, h1, ?_⟩, ?_⟩
      · have e1 : a + a' - a = a' := by omega
        have e2 : b + b' - b = b' := by omega
        rw [e1, e2]; exact h2
      · rw [← e]; exact Bkv_alw h3
/-- bounds of a tight row out of its pairs -/
def bh (q : Nat → Int) (B : Int) : Prop := (0 ≤ q 0 ∧ q 0 ≤ B) ∧ (0 ≤ q 1 ∧ q 1 ≤ B) ∧ (0 ≤ q 2 ∧ q 2 ≤ B) ∧ (0 ≤ q 3 ∧ q 3 ≤ B) ∧ (0 ≤ q 4 ∧ q 4 ≤ B) ∧ (0 ≤ q 5 ∧ q 5 ≤ B)
theorem Tt_bh {q r : Nat → Int} {P : Int → Int → Prop} {B : Int} (h : Tt q P) (hP : ∀ a b, P a b → inR r a b ∧ 0 ≤ a ∧ 0 ≤ b) (hr : r 1 ≤ B ∧ r 3 ≤ B ∧ r 5 ≤ B) : bh q B := by
  obtain ⟨ht, hs⟩ := h
  have g : ∀ a b, inR q a b → inR r a b ∧ 0 ≤ a ∧ 0 ≤ b := fun a b h => hP a b ((hs a b).mp h)
  unfold inR at g; unfold tgt ok6 at ht
  have p0 := g (q 0) (q 4 - q 0) (by omega)
  have p1 := g (q 1) (q 5 - q 1) (by omega)
  have p2 := g (q 4 - q 2) (q 2) (by omega)
  have p3 := g (q 5 - q 3) (q 3) (by omega)
  unfold bh; omega
theorem bh_bd {q : Nat → Int} {B B' : Int} (h : bh q B) (hB : B ≤ B') : bd q B' := by unfold bh at h; unfold bd; omega
theorem bh_le {q : Nat → Int} {B B' : Int} (h : bh q B) (hB : B ≤ B') : bh q B' := by unfold bh at *; omega
end
section
set_option maxHeartbeats 4000000 in
set_option maxRecDepth 100000 in
theorem kX0_at (l : Launch) (D : va_G) (cI : ClassId) (p0 : Int32) (p1 : Int32) (a : Nat) (w : Nat) (h0 : p0.toInt = (a : Int)) (h1 : p1.toInt = (w : Int)) (h2 : a ≤ 61) (h3 : w ≤ 2) : MI l yX0_at wsX0_at ({ frames := 0, cells := 0, slots := 0, locals := 0 } : Room) D [(cI, .int)] [.int p0, .int p1] [] (fun u : Unit => []) (fun (r : Int32) (_ : Unit) => r.toInt = ((3 * a + w : Nat) : Int)) := by
  refine c_ent (cc := cX0_at) (maxL := 2) (ret := (some .int)) (Qc := fun A => va_Qi (fun (r : Int32) (_ : Unit) => r.toInt = ((3 * a + w : Nat) : Int)) (cB D [(cI, .int)] A (fun u : Unit => [])) A) (by decide) rfl (Nat.le_of_ble_eq_true rfl) ?_
  intro p e s m below meth c A ls hx hb hr hlocks hts hown hml hK hP hD hA hl
  have hS : va_S A s.heap s.heap [] := va_S.rf
  have hl : lv_has ls 2 [(0, .int p0), (1, .int p1)] := hl
  have hP : va_P D vwCl [] s.heap := hP
  refine lv_iload_n hx hb dX0_at_0 rfl (lv_at hl 0 rfl) ?_
  refine c_iconst hx hb dX0_at_1 (by decide) (fun v1 i1 => ?_)
  refine c_imul (a := p0.toInt) (b := 3) hx hb dX0_at_2 rfl (by omega) (by omega) (fun v2 i2 => ?_)
  refine lv_iload_n hx hb dX0_at_3 rfl (lv_at hl 1 rfl) ?_
  refine c_iadd hx hb dX0_at_4 (by omega) (fun v4 i4 => ?_)
  exact c_ri () hx hb hr hlocks hK hP hD hS dX0_at_5 (by (try dsimp only); omega)
set_option maxHeartbeats 4000000 in
set_option maxRecDepth 100000 in
theorem kX0_low (l : Launch) (D : va_G) (cI : ClassId) (ad : Nat → Nat) (lo : Nat → Int32) (hi : Nat → Int32) (p1 : Int32) (p2 : Int32) (a : Nat) (w : Nat) (h1 : p1.toInt = (a : Int)) (h2 : p2.toInt = (w : Int)) (h3 : a ≤ 61) (h4 : w ≤ 2) : MI l yX0_low wsX0_low ({ frames := 1, cells := 0, slots := 0, locals := 21 } : Room) D [(cI, .int)] [.ref (ad 13), .int p1, .int p2] (WS cI ad lo hi) (fun u : Unit => (WS cI ad lo hi)) (fun (r : Int32) (_ : Unit) => r = lo (3 * a + w)) := by
  refine c_ent (cc := cX0_low) (maxL := 3) (ret := (some .int)) (Qc := fun A => va_Qi (fun (r : Int32) (_ : Unit) => r = lo (3 * a + w)) (cB D [(cI, .int)] A (fun u : Unit => (WS cI ad lo hi))) A) (by decide) rfl (Nat.le_of_ble_eq_true rfl) ?_
  intro p e s m below meth c A ls hx hb hr hlocks hts hown hml hK hP hD hA hl
  have hS : va_S A s.heap s.heap [] := va_S.rf
  have hl : lv_has ls 3 [(0, .ref (ad 13)), (1, .int p1), (2, .int p2)] := hl
  have hP : va_P D vwCl (WS cI ad lo hi) s.heap := hP
  have fl9 := hts (.fieldLink RX0 9 "DoorBench$Spans" "lows" "[I") (by decide +kernel)
  have inX0 : ∀ w ∈ wsX00, w ∈ wsX0_low := by decide +kernel
  refine lv_aload_n hx hb dX0_low_0 rfl (lv_at hl 0 rfl) ?_
  refine va_get (D := D) (ci := 0) (v := .ref (ad 14)) (C := RX0) (T := TX0) (N := 2) hx hb hts inX0 hown hK hP 0 rfl rfl 0 (by decide) fl9 (fun _ h9 => h9) rfl dX0_low_1 ?_
  refine lv_iload_n hx hb dX0_low_4 rfl (lv_at hl 1 rfl) ?_
  refine lv_iload_n hx hb dX0_low_5 rfl (lv_at hl 2 rfl) ?_
  refine c_cpi (As := [.int p1, .int p2]) (kX0_at l D cI p1 p2 (a) (w) (by omega) (by omega) (by omega) (by omega)) ⟨hx, hb, hml, hown, hts⟩ (va_cwS 2 hts gX0_low_X0_at rfl rfl rfl (by decide +kernel) ⟨Nat.le_of_ble_eq_true rfl, Nat.le_of_ble_eq_true rfl⟩) hK hP hS hA rfl hl.1 rfl (Nat.le_of_ble_eq_true rfl) dX0_low_6 ⟨Nat.zero_le _, Nat.zero_le _⟩ (fun r6 H locs q6 hP hS => ?_)
  try dsimp only at q6
  skip
  refine c_iald hx hb hK hP 1 0 rfl rfl (3 * a + w) (by omega) (by omega) dX0_low_9 (fun v9 e9 => ?_)
  have i9 : v9.toInt = (lo (3 * a + w)).toInt := by rw [e9]
  exact c_ri () hx hb hr hlocks hK hP hD hS dX0_low_10 (by (try dsimp only); assumption)
set_option maxHeartbeats 4000000 in
set_option maxRecDepth 100000 in
theorem kX0_high (l : Launch) (D : va_G) (cI : ClassId) (ad : Nat → Nat) (lo : Nat → Int32) (hi : Nat → Int32) (p1 : Int32) (p2 : Int32) (a : Nat) (w : Nat) (h1 : p1.toInt = (a : Int)) (h2 : p2.toInt = (w : Int)) (h3 : a ≤ 61) (h4 : w ≤ 2) : MI l yX0_high wsX0_high ({ frames := 1, cells := 0, slots := 0, locals := 21 } : Room) D [(cI, .int)] [.ref (ad 13), .int p1, .int p2] (WS cI ad lo hi) (fun u : Unit => (WS cI ad lo hi)) (fun (r : Int32) (_ : Unit) => r = hi (3 * a + w)) := by
  refine c_ent (cc := cX0_high) (maxL := 3) (ret := (some .int)) (Qc := fun A => va_Qi (fun (r : Int32) (_ : Unit) => r = hi (3 * a + w)) (cB D [(cI, .int)] A (fun u : Unit => (WS cI ad lo hi))) A) (by decide) rfl (Nat.le_of_ble_eq_true rfl) ?_
  intro p e s m below meth c A ls hx hb hr hlocks hts hown hml hK hP hD hA hl
  have hS : va_S A s.heap s.heap [] := va_S.rf
  have hl : lv_has ls 3 [(0, .ref (ad 13)), (1, .int p1), (2, .int p2)] := hl
  have hP : va_P D vwCl (WS cI ad lo hi) s.heap := hP
  have fl15 := hts (.fieldLink RX0 15 "DoorBench$Spans" "highs" "[I") (by decide +kernel)
  have inX0 : ∀ w ∈ wsX00, w ∈ wsX0_high := by decide +kernel
  refine lv_aload_n hx hb dX0_high_0 rfl (lv_at hl 0 rfl) ?_
  refine va_get (D := D) (ci := 0) (v := .ref (ad 15)) (C := RX0) (T := TX0) (N := 2) hx hb hts inX0 hown hK hP 0 rfl rfl 1 (by decide) fl15 (fun _ h9 => h9) rfl dX0_high_1 ?_
  refine lv_iload_n hx hb dX0_high_4 rfl (lv_at hl 1 rfl) ?_
  refine lv_iload_n hx hb dX0_high_5 rfl (lv_at hl 2 rfl) ?_
  refine c_cpi (As := [.int p1, .int p2]) (kX0_at l D cI p1 p2 (a) (w) (by omega) (by omega) (by omega) (by omega)) ⟨hx, hb, hml, hown, hts⟩ (va_cwS 2 hts gX0_high_X0_at rfl rfl rfl (by decide +kernel) ⟨Nat.le_of_ble_eq_true rfl, Nat.le_of_ble_eq_true rfl⟩) hK hP hS hA rfl hl.1 rfl (Nat.le_of_ble_eq_true rfl) dX0_high_6 ⟨Nat.zero_le _, Nat.zero_le _⟩ (fun r6 H locs q6 hP hS => ?_)
  try dsimp only at q6
  skip
  refine c_iald hx hb hK hP 2 0 rfl rfl (3 * a + w) (by omega) (by omega) dX0_high_9 (fun v9 e9 => ?_)
  have i9 : v9.toInt = (hi (3 * a + w)).toInt := by rw [e9]
  exact c_ri () hx hb hr hlocks hK hP hD hS dX0_high_10 (by (try dsimp only); assumption)
set_option maxHeartbeats 4000000 in
set_option maxRecDepth 100000 in
theorem kX0_put (l : Launch) (D : va_G) (cI : ClassId) (ad : Nat → Nat) (lo : Nat → Int32) (hi : Nat → Int32) (p1 : Int32) (p2 : Int32) (p3 : Int32) (p4 : Int32) (a : Nat) (w : Nat) (h1 : p1.toInt = (a : Int)) (h2 : p2.toInt = (w : Int)) (h3 : a ≤ 61) (h4 : w ≤ 2) : MV l yX0_put wsX0_put ({ frames := 1, cells := 0, slots := 0, locals := 21 } : Room) D [(cI, .int)] [.ref (ad 13), .int p1, .int p2, .int p3, .int p4] (WS cI ad lo hi) (fun u : Unit => (WS cI ad (upd lo (3 * a + w) p3) (upd hi (3 * a + w) p4))) (fun (_ : Unit) => True) := by
  refine c_ent (cc := cX0_put) (maxL := 6) (ret := none) (Qc := fun A => va_Qv (fun (_ : Unit) => True) (cB D [(cI, .int)] A (fun u : Unit => (WS cI ad (upd lo (3 * a + w) p3) (upd hi (3 * a + w) p4)))) A) (by decide) rfl (Nat.le_of_ble_eq_true rfl) ?_
  intro p e s m below meth c A ls hx hb hr hlocks hts hown hml hK hP hD hA hl
  have hS : va_S A s.heap s.heap [] := va_S.rf
  have hl : lv_has ls 6 [(0, .ref (ad 13)), (1, .int p1), (2, .int p2), (3, .int p3), (4, .int p4)] := hl
  have hP : va_P D vwCl (WS cI ad lo hi) s.heap := hP
  have fl9 := hts (.fieldLink RX0 9 "DoorBench$Spans" "lows" "[I") (by decide +kernel)
  have fl15 := hts (.fieldLink RX0 15 "DoorBench$Spans" "highs" "[I") (by decide +kernel)
  have inX0 : ∀ w ∈ wsX00, w ∈ wsX0_put := by decide +kernel
  refine lv_iload_n hx hb dX0_put_0 rfl (lv_at hl 1 rfl) ?_
  refine lv_iload_n hx hb dX0_put_1 rfl (lv_at hl 2 rfl) ?_
  refine c_cpi (As := [.int p1, .int p2]) (kX0_at l D cI p1 p2 (a) (w) (by omega) (by omega) (by omega) (by omega)) ⟨hx, hb, hml, hown, hts⟩ (va_cwS 2 hts gX0_put_X0_at rfl rfl rfl (by decide +kernel) ⟨Nat.le_of_ble_eq_true rfl, Nat.le_of_ble_eq_true rfl⟩) hK hP hS hA rfl hl.1 rfl (Nat.le_of_ble_eq_true rfl) dX0_put_2 ⟨Nat.zero_le _, Nat.zero_le _⟩ (fun r2 H locs q2 hP hS => ?_)
  try dsimp only at q2
  skip
  refine lv_istore (lv' := [(5, .int r2), (0, .ref (ad 13)), (1, .int p1), (2, .int p2), (3, .int p3), (4, .int p4)]) hx hb dX0_put_5 hl (by decide) rfl (fun ls hl => ?_)
  refine lv_aload_n hx hb dX0_put_7 rfl (lv_at hl 1 rfl) ?_
  refine va_get (D := D) (ci := 0) (v := .ref (ad 14)) (C := RX0) (T := TX0) (N := 2) hx hb hts inX0 hown hK hP 0 rfl rfl 0 (by decide) fl9 (fun _ h9 => h9) rfl dX0_put_8 ?_
  refine lv_iload hx hb dX0_put_11 (lv_at hl 0 rfl) ?_
  refine lv_iload_n hx hb dX0_put_13 rfl (lv_at hl 4 rfl) ?_
  refine c_iast hx hb hK hP hD hS 1 0 rfl rfl (3 * a + w) (by omega) (by omega) (WS cI ad (upd lo (3 * a + w) p3) hi) rfl dX0_put_14 (fun H locs hP hD hS => ?_)
  refine lv_aload_n hx hb dX0_put_15 rfl (lv_at hl 1 rfl) ?_
  refine va_get (D := D) (ci := 0) (v := .ref (ad 15)) (C := RX0) (T := TX0) (N := 2) hx hb hts inX0 hown hK hP 0 rfl rfl 1 (by decide) fl15 (fun _ h9 => h9) rfl dX0_put_16 ?_
  refine lv_iload hx hb dX0_put_19 (lv_at hl 0 rfl) ?_
  refine lv_iload hx hb dX0_put_21 (lv_at hl 5 rfl) ?_
  refine c_iast hx hb hK hP hD hS 2 0 rfl rfl (3 * a + w) (by omega) (by omega) (WS cI ad (upd lo (3 * a + w) p3) (upd hi (3 * a + w) p4)) rfl dX0_put_23 (fun H locs hP hD hS => ?_)
  exact c_rv () hx hb hr hlocks hK hP hD hS dX0_put_24 trivial
set_option maxHeartbeats 4000000 in
set_option maxRecDepth 100000 in
theorem kX0_widen (l : Launch) (D : va_G) (cI : ClassId) (ad : Nat → Nat) (lo : Nat → Int32) (hi : Nat → Int32) (p1 : Int32) (p2 : Int32) (p3 : Int32) (p4 : Int32) (a : Nat) (w : Nat) (h1 : p1.toInt = (a : Int)) (h2 : p2.toInt = (w : Int)) (h3 : a ≤ 61) (h4 : w ≤ 2) (h5 : -100000000 ≤ (lo (3 * a + w)).toInt ∧ (lo (3 * a + w)).toInt ≤ 100000000) (h6 : -100000000 ≤ (hi (3 * a + w)).toInt ∧ (hi (3 * a + w)).toInt ≤ 100000000) (h7 : -100000000 ≤ p3.toInt ∧ p3.toInt ≤ 100000000) (h8 : -100000000 ≤ p4.toInt ∧ p4.toInt ≤ 100000000) : MV l yX0_widen wsX0_widen ({ frames := 1, cells := 0, slots := 0, locals := 21 } : Room) D [(cI, .int)] [.ref (ad 13), .int p1, .int p2, .int p3, .int p4] (WS cI ad lo hi) (fun u : Int32 × Int32 => (WS cI ad (upd lo (3 * a + w) u.1) (upd hi (3 * a + w) u.2))) (fun (u : Int32 × Int32) => u.1.toInt = (lo (3 * a + w)).toInt + p3.toInt ∧ u.2.toInt = (hi (3 * a + w)).toInt + p4.toInt) := by
  refine c_ent (cc := cX0_widen) (maxL := 6) (ret := none) (Qc := fun A => va_Qv (fun (u : Int32 × Int32) => u.1.toInt = (lo (3 * a + w)).toInt + p3.toInt ∧ u.2.toInt = (hi (3 * a + w)).toInt + p4.toInt) (cB D [(cI, .int)] A (fun u : Int32 × Int32 => (WS cI ad (upd lo (3 * a + w) u.1) (upd hi (3 * a + w) u.2)))) A) (by decide) rfl (Nat.le_of_ble_eq_true rfl) ?_
  intro p e s m below meth c A ls hx hb hr hlocks hts hown hml hK hP hD hA hl
  have hS : va_S A s.heap s.heap [] := va_S.rf
  have hl : lv_has ls 6 [(0, .ref (ad 13)), (1, .int p1), (2, .int p2), (3, .int p3), (4, .int p4)] := hl
  have hP : va_P D vwCl (WS cI ad lo hi) s.heap := hP
  have fl9 := hts (.fieldLink RX0 9 "DoorBench$Spans" "lows" "[I") (by decide +kernel)
  have fl15 := hts (.fieldLink RX0 15 "DoorBench$Spans" "highs" "[I") (by decide +kernel)
  have inX0 : ∀ w ∈ wsX00, w ∈ wsX0_widen := by decide +kernel
  refine lv_iload_n hx hb dX0_widen_0 rfl (lv_at hl 1 rfl) ?_
  refine lv_iload_n hx hb dX0_widen_1 rfl (lv_at hl 2 rfl) ?_
  refine c_cpi (As := [.int p1, .int p2]) (kX0_at l D cI p1 p2 (a) (w) (by omega) (by omega) (by omega) (by omega)) ⟨hx, hb, hml, hown, hts⟩ (va_cwS 2 hts gX0_widen_X0_at rfl rfl rfl (by decide +kernel) ⟨Nat.le_of_ble_eq_true rfl, Nat.le_of_ble_eq_true rfl⟩) hK hP hS hA rfl hl.1 rfl (Nat.le_of_ble_eq_true rfl) dX0_widen_2 ⟨Nat.zero_le _, Nat.zero_le _⟩ (fun r2 H locs q2 hP hS => ?_)
  try dsimp only at q2
  skip
  refine lv_istore (lv' := [(5, .int r2), (0, .ref (ad 13)), (1, .int p1), (2, .int p2), (3, .int p3), (4, .int p4)]) hx hb dX0_widen_5 hl (by decide) rfl (fun ls hl => ?_)
  refine lv_aload_n hx hb dX0_widen_7 rfl (lv_at hl 1 rfl) ?_
  refine va_get (D := D) (ci := 0) (v := .ref (ad 14)) (C := RX0) (T := TX0) (N := 2) hx hb hts inX0 hown hK hP 0 rfl rfl 0 (by decide) fl9 (fun _ h9 => h9) rfl dX0_widen_8 ?_
  refine lv_iload hx hb dX0_widen_11 (lv_at hl 0 rfl) ?_
  refine lv_dup2_11 hx hb dX0_widen_13 rfl rfl ?_
  refine c_iald hx hb hK hP 1 0 rfl rfl (3 * a + w) (by omega) (by omega) dX0_widen_14 (fun v14 e14 => ?_)
  have i14 : v14.toInt = (lo (3 * a + w)).toInt := by rw [e14]
  refine lv_iload_n hx hb dX0_widen_15 rfl (lv_at hl 4 rfl) ?_
  refine c_iadd hx hb dX0_widen_16 (by omega) (fun v16 i16 => ?_)
  refine c_iast hx hb hK hP hD hS 1 0 rfl rfl (3 * a + w) (by omega) (by omega) (WS cI ad (upd lo (3 * a + w) v16) hi) rfl dX0_widen_17 (fun H locs hP hD hS => ?_)
  refine lv_aload_n hx hb dX0_widen_18 rfl (lv_at hl 1 rfl) ?_
  refine va_get (D := D) (ci := 0) (v := .ref (ad 15)) (C := RX0) (T := TX0) (N := 2) hx hb hts inX0 hown hK hP 0 rfl rfl 1 (by decide) fl15 (fun _ h9 => h9) rfl dX0_widen_19 ?_
  refine lv_iload hx hb dX0_widen_22 (lv_at hl 0 rfl) ?_
  refine lv_dup2_11 hx hb dX0_widen_24 rfl rfl ?_
  refine c_iald hx hb hK hP 2 0 rfl rfl (3 * a + w) (by omega) (by omega) dX0_widen_25 (fun v25 e25 => ?_)
  have i25 : v25.toInt = (hi (3 * a + w)).toInt := by rw [e25]
  refine lv_iload hx hb dX0_widen_26 (lv_at hl 5 rfl) ?_
  refine c_iadd hx hb dX0_widen_28 (by omega) (fun v28 i28 => ?_)
  refine c_iast hx hb hK hP hD hS 2 0 rfl rfl (3 * a + w) (by omega) (by omega) (WS cI ad (upd lo (3 * a + w) v16) (upd hi (3 * a + w) v28)) rfl dX0_widen_29 (fun H locs hP hD hS => ?_)
  exact c_rv (v16, v28) hx hb hr hlocks hK hP hD hS dX0_widen_30 (by (try dsimp only); omega)
set_option maxHeartbeats 4000000 in
set_option maxRecDepth 100000 in
theorem kX0_cut (l : Launch) (D : va_G) (cI : ClassId) (ad : Nat → Nat) (lo : Nat → Int32) (hi : Nat → Int32) (p1 : Int32) (p2 : Int32) (p3 : Int32) (p4 : Int32) (a : Nat) (w : Nat) (h1 : p1.toInt = (a : Int)) (h2 : p2.toInt = (w : Int)) (h3 : a ≤ 61) (h4 : w ≤ 2) : MV l yX0_cut wsX0_cut ({ frames := 1, cells := 0, slots := 0, locals := 21 } : Room) D [(cI, .int)] [.ref (ad 13), .int p1, .int p2, .int p3, .int p4] (WS cI ad lo hi) (fun u : Int32 × Int32 => (WS cI ad (upd lo (3 * a + w) u.1) (upd hi (3 * a + w) u.2))) (fun (u : Int32 × Int32) => isMx u.1.toInt (lo (3 * a + w)).toInt p3.toInt ∧ isMn u.2.toInt (hi (3 * a + w)).toInt p4.toInt) := by
  refine c_ent (cc := cX0_cut) (maxL := 6) (ret := none) (Qc := fun A => va_Qv (fun (u : Int32 × Int32) => isMx u.1.toInt (lo (3 * a + w)).toInt p3.toInt ∧ isMn u.2.toInt (hi (3 * a + w)).toInt p4.toInt) (cB D [(cI, .int)] A (fun u : Int32 × Int32 => (WS cI ad (upd lo (3 * a + w) u.1) (upd hi (3 * a + w) u.2)))) A) (by decide) rfl (Nat.le_of_ble_eq_true rfl) ?_
  intro p e s m below meth c A ls hx hb hr hlocks hts hown hml hK hP hD hA hl
  have hS : va_S A s.heap s.heap [] := va_S.rf
  have hl : lv_has ls 6 [(0, .ref (ad 13)), (1, .int p1), (2, .int p2), (3, .int p3), (4, .int p4)] := hl
  have hP : va_P D vwCl (WS cI ad lo hi) s.heap := hP
  have fl9 := hts (.fieldLink RX0 9 "DoorBench$Spans" "lows" "[I") (by decide +kernel)
  have fl15 := hts (.fieldLink RX0 15 "DoorBench$Spans" "highs" "[I") (by decide +kernel)
  have inX0 : ∀ w ∈ wsX00, w ∈ wsX0_cut := by decide +kernel
  have ml22 := hts (.methodLink RX0 22 Lib.Math.max.name) (by decide +kernel)
  have ms22 := hts (.static Lib.Math.max.name) (by decide +kernel)
  have mi22 := hts (.initialized "java/lang/Math") (by decide +kernel)
  have mc22 := hts (.code Lib.Math.max.name Lib.Math.max.code 2 (some .int)) (by decide +kernel)
  have ml27 := hts (.methodLink RX0 27 Lib.Math.min.name) (by decide +kernel)
  have ms27 := hts (.static Lib.Math.min.name) (by decide +kernel)
  have mi27 := hts (.initialized "java/lang/Math") (by decide +kernel)
  have mc27 := hts (.code Lib.Math.min.name Lib.Math.min.code 2 (some .int)) (by decide +kernel)
  refine lv_iload_n hx hb dX0_cut_0 rfl (lv_at hl 1 rfl) ?_
  refine lv_iload_n hx hb dX0_cut_1 rfl (lv_at hl 2 rfl) ?_
  refine c_cpi (As := [.int p1, .int p2]) (kX0_at l D cI p1 p2 (a) (w) (by omega) (by omega) (by omega) (by omega)) ⟨hx, hb, hml, hown, hts⟩ (va_cwS 2 hts gX0_cut_X0_at rfl rfl rfl (by decide +kernel) ⟨Nat.le_of_ble_eq_true rfl, Nat.le_of_ble_eq_true rfl⟩) hK hP hS hA rfl hl.1 rfl (Nat.le_of_ble_eq_true rfl) dX0_cut_2 ⟨Nat.zero_le _, Nat.zero_le _⟩ (fun r2 H locs q2 hP hS => ?_)
  try dsimp only at q2
  skip
  refine lv_istore (lv' := [(5, .int r2), (0, .ref (ad 13)), (1, .int p1), (2, .int p2), (3, .int p3), (4, .int p4)]) hx hb dX0_cut_5 hl (by decide) rfl (fun ls hl => ?_)
  refine lv_aload_n hx hb dX0_cut_7 rfl (lv_at hl 1 rfl) ?_
  refine va_get (D := D) (ci := 0) (v := .ref (ad 14)) (C := RX0) (T := TX0) (N := 2) hx hb hts inX0 hown hK hP 0 rfl rfl 0 (by decide) fl9 (fun _ h9 => h9) rfl dX0_cut_8 ?_
  refine lv_iload hx hb dX0_cut_11 (lv_at hl 0 rfl) ?_
  refine lv_aload_n hx hb dX0_cut_13 rfl (lv_at hl 1 rfl) ?_
  refine va_get (D := D) (ci := 0) (v := .ref (ad 14)) (C := RX0) (T := TX0) (N := 2) hx hb hts inX0 hown hK hP 0 rfl rfl 0 (by decide) fl9 (fun _ h9 => h9) rfl dX0_cut_14 ?_
  refine lv_iload hx hb dX0_cut_17 (lv_at hl 0 rfl) ?_
  refine c_iald hx hb hK hP 1 0 rfl rfl (3 * a + w) (by omega) (by omega) dX0_cut_19 (fun v19 e19 => ?_)
  have i19 : v19.toInt = (lo (3 * a + w)).toInt := by rw [e19]
  refine lv_iload_n hx hb dX0_cut_20 rfl (lv_at hl 4 rfl) ?_
  refine c_mmax hx hb (hml.trans hl.1.symm) hown ml22 ms22 mi22 mc22 (Nat.le_of_ble_eq_true rfl) (Nat.le_of_ble_eq_true rfl) (Nat.zero_le _) (Nat.zero_le _) dX0_cut_21 (fun v21 i21 => ?_)
  refine c_iast hx hb hK hP hD hS 1 0 rfl rfl (3 * a + w) (by omega) (by omega) (WS cI ad (upd lo (3 * a + w) v21) hi) rfl dX0_cut_24 (fun H locs hP hD hS => ?_)
  refine lv_aload_n hx hb dX0_cut_25 rfl (lv_at hl 1 rfl) ?_
  refine va_get (D := D) (ci := 0) (v := .ref (ad 15)) (C := RX0) (T := TX0) (N := 2) hx hb hts inX0 hown hK hP 0 rfl rfl 1 (by decide) fl15 (fun _ h9 => h9) rfl dX0_cut_26 ?_
  refine lv_iload hx hb dX0_cut_29 (lv_at hl 0 rfl) ?_
  refine lv_aload_n hx hb dX0_cut_31 rfl (lv_at hl 1 rfl) ?_
  refine va_get (D := D) (ci := 0) (v := .ref (ad 15)) (C := RX0) (T := TX0) (N := 2) hx hb hts inX0 hown hK hP 0 rfl rfl 1 (by decide) fl15 (fun _ h9 => h9) rfl dX0_cut_32 ?_
  refine lv_iload hx hb dX0_cut_35 (lv_at hl 0 rfl) ?_
  refine c_iald hx hb hK hP 2 0 rfl rfl (3 * a + w) (by omega) (by omega) dX0_cut_37 (fun v37 e37 => ?_)
  have i37 : v37.toInt = (hi (3 * a + w)).toInt := by rw [e37]
  refine lv_iload hx hb dX0_cut_38 (lv_at hl 5 rfl) ?_
  refine c_mmin hx hb (hml.trans hl.1.symm) hown ml27 ms27 mi27 mc27 (Nat.le_of_ble_eq_true rfl) (Nat.le_of_ble_eq_true rfl) (Nat.zero_le _) (Nat.zero_le _) dX0_cut_40 (fun v40 i40 => ?_)
  refine c_iast hx hb hK hP hD hS 2 0 rfl rfl (3 * a + w) (by omega) (by omega) (WS cI ad (upd lo (3 * a + w) v21) (upd hi (3 * a + w) v40)) rfl dX0_cut_43 (fun H locs hP hD hS => ?_)
  exact c_rv (v21, v40) hx hb hr hlocks hK hP hD hS dX0_cut_44 ⟨by show _ = max _ _; rw [i21, i19], by show _ = min _ _; rw [i40, i37]⟩
set_option maxHeartbeats 4000000 in
set_option maxRecDepth 100000 in
theorem kX0_putSum (l : Launch) (D : va_G) (cI : ClassId) (ad : Nat → Nat) (lo : Nat → Int32) (hi : Nat → Int32) (p1 : Int32) (p2 : Int32) (p3 : Int32) (a : Nat) (b : Nat) (c0 : Nat) (h1 : p1.toInt = (a : Int)) (h2 : p2.toInt = (b : Int)) (h3 : p3.toInt = (c0 : Int)) (h4 : a ≤ 61 ∧ b ≤ 61 ∧ c0 ≤ 61 ∧ a ≠ b ∧ a ≠ c0) (h5 : bd (rwX lo hi b) 100000000) (h6 : bd (rwX lo hi c0) 100000000) : MV l yX0_putSum wsX0_putSum ({ frames := 2, cells := 0, slots := 0, locals := 46 } : Room) D [(cI, .int)] [.ref (ad 13), .int p1, .int p2, .int p3] (WS cI ad lo hi) (fun u : (Nat → Int32) × (Nat → Int32) => (WS cI ad u.1 u.2)) (fun (u : (Nat → Int32) × (Nat → Int32)) => sm6 (rwX u.1 u.2 a) (rwX lo hi b) (rwX lo hi c0) ∧ (∀ j, (j < 3 * a ∨ 3 * a + 3 ≤ j) → u.1 j = lo j ∧ u.2 j = hi j)) := by
  refine c_ent (cc := cX0_putSum) (maxL := 5) (ret := none) (Qc := fun A => va_Qv (fun (u : (Nat → Int32) × (Nat → Int32)) => sm6 (rwX u.1 u.2 a) (rwX lo hi b) (rwX lo hi c0) ∧ (∀ j, (j < 3 * a ∨ 3 * a + 3 ≤ j) → u.1 j = lo j ∧ u.2 j = hi j)) (cB D [(cI, .int)] A (fun u : (Nat → Int32) × (Nat → Int32) => (WS cI ad u.1 u.2))) A) (by decide) rfl (Nat.le_of_ble_eq_true rfl) ?_
  intro p e s m below meth c A ls hx hb hr hlocks hts hown hml hK hP hD hA hl
  have hS : va_S A s.heap s.heap [] := va_S.rf
  have hl : lv_has ls 5 [(0, .ref (ad 13)), (1, .int p1), (2, .int p2), (3, .int p3)] := hl
  have hP : va_P D vwCl (WS cI ad lo hi) s.heap := hP
  refine c_iconst hx hb dX0_putSum_0 (by decide) (fun v0 i0 => ?_)
  refine lv_istore (lv' := [(4, .int v0), (0, .ref (ad 13)), (1, .int p1), (2, .int p2), (3, .int p3)]) hx hb dX0_putSum_1 hl (by decide) rfl (fun ls hl => ?_)
  have HL3 : ∀ (n : Nat) (k : Nat) (x4 : Int32) (lo1 : Nat → Int32) (hi1 : Nat → Int32) (H : Heap) (locs : List Loc) (ls : Array Slot), (x4.toInt = (k : Int)) → (k ≤ 3) → (4 ≤ k + n) → ((∀ j, (j < 3 * a ∨ 3 * a + k ≤ j) → lo1 j = lo j ∧ hi1 j = hi j)) → ((∀ w, w < k → ((lo1 (3 * a + w)).toInt = (lo (3 * b + w)).toInt + (lo (3 * c0 + w)).toInt ∧ (hi1 (3 * a + w)).toInt = (hi (3 * b + w)).toInt + (hi (3 * c0 + w)).toInt))) → va_P D vwCl (WS cI ad lo1 hi1) H → va_D A (WS cI ad lo1 hi1) → va_S A s.heap H locs → lv_has ls 5 [(0, .ref (ad 13)), (1, .int p1), (2, .int p2), (3, .int p3), (4, .int x4)] → W p l e ({ frames := 2, cells := 0, slots := 0, locals := 46 } : Room) s m [.ref (ad 13), .int p1, .int p2, .int p3].toArray below meth c H locs 0 0 (MQ below (va_Qv (fun (u : (Nat → Int32) × (Nat → Int32)) => sm6 (rwX u.1 u.2 a) (rwX lo hi b) (rwX lo hi c0) ∧ (∀ j, (j < 3 * a ∨ 3 * a + 3 ≤ j) → u.1 j = lo j ∧ u.2 j = hi j)) (cB D [(cI, .int)] A (fun u : (Nat → Int32) × (Nat → Int32) => (WS cI ad u.1 u.2))) A) [.ref (ad 13), .int p1, .int p2, .int p3].toArray s 0 0 A) (F0 m 3 ls []) := by
    intro n
    induction n with
    | zero => intro k x4 lo1 hi1 H locs ls hx4 hk hm hin hva; exact absurd hm (by omega)
    | succ n ih3 =>
      intro k x4 lo1 hi1 H locs ls hx4 hk hm hin hva hP hD hS hl
      refine lv_iload hx hb dX0_putSum_3 (lv_at hl 4 rfl) ?_
      refine c_iconst hx hb dX0_putSum_5 (by decide) (fun v5 i5 => ?_)
      refine c_icmp_ge (tgt := 52) hx hb dX0_putSum_6 (by decide) (fun c6 => ?_) (fun c6 => ?_)
      · skip
        exact c_rv (lo1, hi1) hx hb hr hlocks hK hP hD hS dX0_putSum_52 (by
              have hk3 : k = 3 := by omega
              subst hk3
              have e0 := hva 0 (by omega)
              have e1 := hva 1 (by omega)
              have e2 := hva 2 (by omega)
              exact ⟨⟨e0.1, e0.2, e1.1, e1.2, e2.1, e2.2⟩, hin⟩)
      · skip
        refine lv_aload_n hx hb dX0_putSum_9 rfl (lv_at hl 0 rfl) ?_
        refine lv_iload_n hx hb dX0_putSum_10 rfl (lv_at hl 1 rfl) ?_
        refine lv_iload hx hb dX0_putSum_11 (lv_at hl 4 rfl) ?_
        refine lv_aload_n hx hb dX0_putSum_13 rfl (lv_at hl 0 rfl) ?_
        refine lv_iload_n hx hb dX0_putSum_14 rfl (lv_at hl 2 rfl) ?_
        refine lv_iload hx hb dX0_putSum_15 (lv_at hl 4 rfl) ?_
        refine c_wvi (As := [.int p2, .int x4]) (ci := 0) (q0 := 0) (kX0_low l D cI ad lo1 hi1 p2 x4 (b) (k) (by omega) (by omega) (by omega) (by omega)) ⟨hx, hb, hml, hown, hts⟩ (cwV 2 hts gX0_putSum_X0_low rfl rfl rfl (by decide +kernel) ⟨Nat.le_of_ble_eq_true rfl, Nat.le_of_ble_eq_true rfl⟩) hK hP hD hS hA rfl rfl rfl rfl hl.1 rfl (Nat.le_of_ble_eq_true rfl) dX0_putSum_17 ⟨Nat.zero_le _, Nat.zero_le _⟩ (fun r17 u17 H locs q17 hP hD hS => ?_)
        try dsimp only at q17
        have hP : va_P D vwCl (WS cI ad lo1 hi1) H := hP
        have hD : va_D A (WS cI ad lo1 hi1) := hD
        have y17 : r17.toInt = (lo (3 * b + k)).toInt := by rw [q17, (hin (3 * b + k) (by omega)).1]
        have z17 := bd_at h5 (k := k) (by omega)
        refine lv_aload_n hx hb dX0_putSum_20 rfl (lv_at hl 0 rfl) ?_
        refine lv_iload_n hx hb dX0_putSum_21 rfl (lv_at hl 3 rfl) ?_
        refine lv_iload hx hb dX0_putSum_22 (lv_at hl 4 rfl) ?_
        refine c_wvi (As := [.int p3, .int x4]) (ci := 0) (q0 := 0) (kX0_low l D cI ad lo1 hi1 p3 x4 (c0) (k) (by omega) (by omega) (by omega) (by omega)) ⟨hx, hb, hml, hown, hts⟩ (cwV 2 hts gX0_putSum_X0_low rfl rfl rfl (by decide +kernel) ⟨Nat.le_of_ble_eq_true rfl, Nat.le_of_ble_eq_true rfl⟩) hK hP hD hS hA rfl rfl rfl rfl hl.1 rfl (Nat.le_of_ble_eq_true rfl) dX0_putSum_24 ⟨Nat.zero_le _, Nat.zero_le _⟩ (fun r24 u24 H locs q24 hP hD hS => ?_)
        try dsimp only at q24
        have hP : va_P D vwCl (WS cI ad lo1 hi1) H := hP
        have hD : va_D A (WS cI ad lo1 hi1) := hD
        have y24 : r24.toInt = (lo (3 * c0 + k)).toInt := by rw [q24, (hin (3 * c0 + k) (by omega)).1]
        have z24 := bd_at h6 (k := k) (by omega)
        refine c_iadd hx hb dX0_putSum_27 (by omega) (fun v27 i27 => ?_)
        refine lv_aload_n hx hb dX0_putSum_28 rfl (lv_at hl 0 rfl) ?_
        refine lv_iload_n hx hb dX0_putSum_29 rfl (lv_at hl 2 rfl) ?_
        refine lv_iload hx hb dX0_putSum_30 (lv_at hl 4 rfl) ?_
        refine c_wvi (As := [.int p2, .int x4]) (ci := 0) (q0 := 0) (kX0_high l D cI ad lo1 hi1 p2 x4 (b) (k) (by omega) (by omega) (by omega) (by omega)) ⟨hx, hb, hml, hown, hts⟩ (cwV 2 hts gX0_putSum_X0_high rfl rfl rfl (by decide +kernel) ⟨Nat.le_of_ble_eq_true rfl, Nat.le_of_ble_eq_true rfl⟩) hK hP hD hS hA rfl rfl rfl rfl hl.1 rfl (Nat.le_of_ble_eq_true rfl) dX0_putSum_32 ⟨Nat.zero_le _, Nat.zero_le _⟩ (fun r32 u32 H locs q32 hP hD hS => ?_)
        try dsimp only at q32
        have hP : va_P D vwCl (WS cI ad lo1 hi1) H := hP
        have hD : va_D A (WS cI ad lo1 hi1) := hD
        have y32 : r32.toInt = (hi (3 * b + k)).toInt := by rw [q32, (hin (3 * b + k) (by omega)).2]
        have z32 := bd_at h5 (k := k) (by omega)
        refine lv_aload_n hx hb dX0_putSum_35 rfl (lv_at hl 0 rfl) ?_
        refine lv_iload_n hx hb dX0_putSum_36 rfl (lv_at hl 3 rfl) ?_
        refine lv_iload hx hb dX0_putSum_37 (lv_at hl 4 rfl) ?_
        refine c_wvi (As := [.int p3, .int x4]) (ci := 0) (q0 := 0) (kX0_high l D cI ad lo1 hi1 p3 x4 (c0) (k) (by omega) (by omega) (by omega) (by omega)) ⟨hx, hb, hml, hown, hts⟩ (cwV 2 hts gX0_putSum_X0_high rfl rfl rfl (by decide +kernel) ⟨Nat.le_of_ble_eq_true rfl, Nat.le_of_ble_eq_true rfl⟩) hK hP hD hS hA rfl rfl rfl rfl hl.1 rfl (Nat.le_of_ble_eq_true rfl) dX0_putSum_39 ⟨Nat.zero_le _, Nat.zero_le _⟩ (fun r39 u39 H locs q39 hP hD hS => ?_)
        try dsimp only at q39
        have hP : va_P D vwCl (WS cI ad lo1 hi1) H := hP
        have hD : va_D A (WS cI ad lo1 hi1) := hD
        have y39 : r39.toInt = (hi (3 * c0 + k)).toInt := by rw [q39, (hin (3 * c0 + k) (by omega)).2]
        have z39 := bd_at h6 (k := k) (by omega)
        refine c_iadd hx hb dX0_putSum_42 (by omega) (fun v42 i42 => ?_)
        refine c_wvv (As := [.int p1, .int x4, .int v27, .int v42]) (ci := 0) (q0 := 0) (kX0_put l D cI ad lo1 hi1 p1 x4 v27 v42 (a) (k) (by omega) (by omega) (by omega) (by omega)) ⟨hx, hb, hml, hown, hts⟩ (cwV 4 hts gX0_putSum_X0_put rfl rfl rfl (by decide +kernel) ⟨Nat.le_of_ble_eq_true rfl, Nat.le_of_ble_eq_true rfl⟩) hK hP hD hS hA rfl rfl rfl rfl hl.1 rfl (Nat.le_of_ble_eq_true rfl) dX0_putSum_43 ⟨Nat.zero_le _, Nat.zero_le _⟩ (fun u43 H locs q43 hP hD hS => ?_)
        try dsimp only at q43
        have hP : va_P D vwCl (WS cI ad (upd lo1 (3 * (a) + (k)) v27) (upd hi1 (3 * (a) + (k)) v42)) H := hP
        have hD : va_D A (WS cI ad (upd lo1 (3 * (a) + (k)) v27) (upd hi1 (3 * (a) + (k)) v42)) := hD
        refine c_iinc (k := 4) hx hb (fun v46 => [(4, .int v46), (0, .ref (ad 13)), (1, .int p1), (2, .int p2), (3, .int p3)]) dX0_putSum_46 hl rfl (by decide) (by omega) (by decide) (fun _ => rfl) (fun v46 ls i46 hl => ?_)
        have hl : lv_has ls 5 [(4, .int v46), (0, .ref (ad 13)), (1, .int p1), (2, .int p2), (3, .int p3)] := hl
        refine lv_goto (tgt := 3) hx hb dX0_putSum_49 (by decide) ?_
        exact ih3 (k + 1) v46 (upd lo1 (3 * a + k) v27) (upd hi1 (3 * a + k) v42) _ _ _ (by omega) (by omega) (by omega) (fun j hj => ⟨(pk_un (by omega)).trans (hin j (by omega)).1, (pk_un (by omega)).trans (hin j (by omega)).2⟩) (fun w hw => by
                  rcases Nat.lt_or_ge w k with q | q
                  · rw [pk_un (by omega), pk_un (by omega)]; exact hva w q
                  · have hwk : w = k := by omega
                    subst hwk; rw [pk_us, pk_us]; constructor <;> omega) hP hD hS (lv_sub hl [1, 2, 3, 4, 0] rfl)
  exact HL3 4 0 v0 lo hi _ _ _ (by omega) (by omega) (by omega) (fun j _ => ⟨rfl, rfl⟩) (fun w h => absurd h (by omega)) hP hD hS (lv_sub hl [1, 2, 3, 4, 0] rfl)
set_option maxHeartbeats 4000000 in
set_option maxRecDepth 100000 in
theorem kX0_cutByDifference (l : Launch) (D : va_G) (cI : ClassId) (ad : Nat → Nat) (lo : Nat → Int32) (hi : Nat → Int32) (p1 : Int32) (p2 : Int32) (p3 : Int32) (a : Nat) (b : Nat) (c0 : Nat) (h1 : p1.toInt = (a : Int)) (h2 : p2.toInt = (b : Int)) (h3 : p3.toInt = (c0 : Int)) (h4 : a ≤ 61 ∧ b ≤ 61 ∧ c0 ≤ 61 ∧ a ≠ b ∧ a ≠ c0) (h5 : bd (rwX lo hi b) 100000000) (h6 : bd (rwX lo hi c0) 100000000) : MV l yX0_cutByDifference wsX0_cutByDifference ({ frames := 2, cells := 0, slots := 0, locals := 46 } : Room) D [(cI, .int)] [.ref (ad 13), .int p1, .int p2, .int p3] (WS cI ad lo hi) (fun u : (Nat → Int32) × (Nat → Int32) => (WS cI ad u.1 u.2)) (fun (u : (Nat → Int32) × (Nat → Int32)) => cd6 (rwX u.1 u.2 a) (rwX lo hi a) (rwX lo hi b) (rwX lo hi c0) ∧ (∀ j, (j < 3 * a ∨ 3 * a + 3 ≤ j) → u.1 j = lo j ∧ u.2 j = hi j)) := by
  refine c_ent (cc := cX0_cutByDifference) (maxL := 5) (ret := none) (Qc := fun A => va_Qv (fun (u : (Nat → Int32) × (Nat → Int32)) => cd6 (rwX u.1 u.2 a) (rwX lo hi a) (rwX lo hi b) (rwX lo hi c0) ∧ (∀ j, (j < 3 * a ∨ 3 * a + 3 ≤ j) → u.1 j = lo j ∧ u.2 j = hi j)) (cB D [(cI, .int)] A (fun u : (Nat → Int32) × (Nat → Int32) => (WS cI ad u.1 u.2))) A) (by decide) rfl (Nat.le_of_ble_eq_true rfl) ?_
  intro p e s m below meth c A ls hx hb hr hlocks hts hown hml hK hP hD hA hl
  have hS : va_S A s.heap s.heap [] := va_S.rf
  have hl : lv_has ls 5 [(0, .ref (ad 13)), (1, .int p1), (2, .int p2), (3, .int p3)] := hl
  have hP : va_P D vwCl (WS cI ad lo hi) s.heap := hP
  refine c_iconst hx hb dX0_cutByDifference_0 (by decide) (fun v0 i0 => ?_)
  refine lv_istore (lv' := [(4, .int v0), (0, .ref (ad 13)), (1, .int p1), (2, .int p2), (3, .int p3)]) hx hb dX0_cutByDifference_1 hl (by decide) rfl (fun ls hl => ?_)
  have HL3 : ∀ (n : Nat) (k : Nat) (x4 : Int32) (lo1 : Nat → Int32) (hi1 : Nat → Int32) (H : Heap) (locs : List Loc) (ls : Array Slot), (x4.toInt = (k : Int)) → (k ≤ 3) → (4 ≤ k + n) → ((∀ j, (j < 3 * a ∨ 3 * a + k ≤ j) → lo1 j = lo j ∧ hi1 j = hi j)) → ((∀ w, w < k → ((lo1 (3 * a + w)).toInt = max (lo (3 * a + w)).toInt ((lo (3 * b + w)).toInt - (hi (3 * c0 + w)).toInt) ∧ (hi1 (3 * a + w)).toInt = min (hi (3 * a + w)).toInt ((hi (3 * b + w)).toInt - (lo (3 * c0 + w)).toInt)))) → va_P D vwCl (WS cI ad lo1 hi1) H → va_D A (WS cI ad lo1 hi1) → va_S A s.heap H locs → lv_has ls 5 [(0, .ref (ad 13)), (1, .int p1), (2, .int p2), (3, .int p3), (4, .int x4)] → W p l e ({ frames := 2, cells := 0, slots := 0, locals := 46 } : Room) s m [.ref (ad 13), .int p1, .int p2, .int p3].toArray below meth c H locs 0 0 (MQ below (va_Qv (fun (u : (Nat → Int32) × (Nat → Int32)) => cd6 (rwX u.1 u.2 a) (rwX lo hi a) (rwX lo hi b) (rwX lo hi c0) ∧ (∀ j, (j < 3 * a ∨ 3 * a + 3 ≤ j) → u.1 j = lo j ∧ u.2 j = hi j)) (cB D [(cI, .int)] A (fun u : (Nat → Int32) × (Nat → Int32) => (WS cI ad u.1 u.2))) A) [.ref (ad 13), .int p1, .int p2, .int p3].toArray s 0 0 A) (F0 m 3 ls []) := by
    intro n
    induction n with
    | zero => intro k x4 lo1 hi1 H locs ls hx4 hk hm hin hva; exact absurd hm (by omega)
    | succ n ih3 =>
      intro k x4 lo1 hi1 H locs ls hx4 hk hm hin hva hP hD hS hl
      refine lv_iload hx hb dX0_cutByDifference_3 (lv_at hl 4 rfl) ?_
      refine c_iconst hx hb dX0_cutByDifference_5 (by decide) (fun v5 i5 => ?_)
      refine c_icmp_ge (tgt := 52) hx hb dX0_cutByDifference_6 (by decide) (fun c6 => ?_) (fun c6 => ?_)
      · skip
        exact c_rv (lo1, hi1) hx hb hr hlocks hK hP hD hS dX0_cutByDifference_52 (by
              have hk3 : k = 3 := by omega
              subst hk3
              have e0 := hva 0 (by omega)
              have e1 := hva 1 (by omega)
              have e2 := hva 2 (by omega)
              exact ⟨⟨e0.1, e0.2, e1.1, e1.2, e2.1, e2.2⟩, hin⟩)
      · skip
        refine lv_aload_n hx hb dX0_cutByDifference_9 rfl (lv_at hl 0 rfl) ?_
        refine lv_iload_n hx hb dX0_cutByDifference_10 rfl (lv_at hl 1 rfl) ?_
        refine lv_iload hx hb dX0_cutByDifference_11 (lv_at hl 4 rfl) ?_
        refine lv_aload_n hx hb dX0_cutByDifference_13 rfl (lv_at hl 0 rfl) ?_
        refine lv_iload_n hx hb dX0_cutByDifference_14 rfl (lv_at hl 2 rfl) ?_
        refine lv_iload hx hb dX0_cutByDifference_15 (lv_at hl 4 rfl) ?_
        refine c_wvi (As := [.int p2, .int x4]) (ci := 0) (q0 := 0) (kX0_low l D cI ad lo1 hi1 p2 x4 (b) (k) (by omega) (by omega) (by omega) (by omega)) ⟨hx, hb, hml, hown, hts⟩ (cwV 2 hts gX0_cutByDifference_X0_low rfl rfl rfl (by decide +kernel) ⟨Nat.le_of_ble_eq_true rfl, Nat.le_of_ble_eq_true rfl⟩) hK hP hD hS hA rfl rfl rfl rfl hl.1 rfl (Nat.le_of_ble_eq_true rfl) dX0_cutByDifference_17 ⟨Nat.zero_le _, Nat.zero_le _⟩ (fun r17 u17 H locs q17 hP hD hS => ?_)
        try dsimp only at q17
        have hP : va_P D vwCl (WS cI ad lo1 hi1) H := hP
        have hD : va_D A (WS cI ad lo1 hi1) := hD
        have y17 : r17.toInt = (lo (3 * b + k)).toInt := by rw [q17, (hin (3 * b + k) (by omega)).1]
        have z17 := bd_at h5 (k := k) (by omega)
        refine lv_aload_n hx hb dX0_cutByDifference_20 rfl (lv_at hl 0 rfl) ?_
        refine lv_iload_n hx hb dX0_cutByDifference_21 rfl (lv_at hl 3 rfl) ?_
        refine lv_iload hx hb dX0_cutByDifference_22 (lv_at hl 4 rfl) ?_
        refine c_wvi (As := [.int p3, .int x4]) (ci := 0) (q0 := 0) (kX0_high l D cI ad lo1 hi1 p3 x4 (c0) (k) (by omega) (by omega) (by omega) (by omega)) ⟨hx, hb, hml, hown, hts⟩ (cwV 2 hts gX0_cutByDifference_X0_high rfl rfl rfl (by decide +kernel) ⟨Nat.le_of_ble_eq_true rfl, Nat.le_of_ble_eq_true rfl⟩) hK hP hD hS hA rfl rfl rfl rfl hl.1 rfl (Nat.le_of_ble_eq_true rfl) dX0_cutByDifference_24 ⟨Nat.zero_le _, Nat.zero_le _⟩ (fun r24 u24 H locs q24 hP hD hS => ?_)
        try dsimp only at q24
        have hP : va_P D vwCl (WS cI ad lo1 hi1) H := hP
        have hD : va_D A (WS cI ad lo1 hi1) := hD
        have y24 : r24.toInt = (hi (3 * c0 + k)).toInt := by rw [q24, (hin (3 * c0 + k) (by omega)).2]
        have z24 := bd_at h6 (k := k) (by omega)
        refine c_isub hx hb dX0_cutByDifference_27 (by omega) (fun v27 i27 => ?_)
        refine lv_aload_n hx hb dX0_cutByDifference_28 rfl (lv_at hl 0 rfl) ?_
        refine lv_iload_n hx hb dX0_cutByDifference_29 rfl (lv_at hl 2 rfl) ?_
        refine lv_iload hx hb dX0_cutByDifference_30 (lv_at hl 4 rfl) ?_
        refine c_wvi (As := [.int p2, .int x4]) (ci := 0) (q0 := 0) (kX0_high l D cI ad lo1 hi1 p2 x4 (b) (k) (by omega) (by omega) (by omega) (by omega)) ⟨hx, hb, hml, hown, hts⟩ (cwV 2 hts gX0_cutByDifference_X0_high rfl rfl rfl (by decide +kernel) ⟨Nat.le_of_ble_eq_true rfl, Nat.le_of_ble_eq_true rfl⟩) hK hP hD hS hA rfl rfl rfl rfl hl.1 rfl (Nat.le_of_ble_eq_true rfl) dX0_cutByDifference_32 ⟨Nat.zero_le _, Nat.zero_le _⟩ (fun r32 u32 H locs q32 hP hD hS => ?_)
        try dsimp only at q32
        have hP : va_P D vwCl (WS cI ad lo1 hi1) H := hP
        have hD : va_D A (WS cI ad lo1 hi1) := hD
        have y32 : r32.toInt = (hi (3 * b + k)).toInt := by rw [q32, (hin (3 * b + k) (by omega)).2]
        have z32 := bd_at h5 (k := k) (by omega)
        refine lv_aload_n hx hb dX0_cutByDifference_35 rfl (lv_at hl 0 rfl) ?_
        refine lv_iload_n hx hb dX0_cutByDifference_36 rfl (lv_at hl 3 rfl) ?_
        refine lv_iload hx hb dX0_cutByDifference_37 (lv_at hl 4 rfl) ?_
        refine c_wvi (As := [.int p3, .int x4]) (ci := 0) (q0 := 0) (kX0_low l D cI ad lo1 hi1 p3 x4 (c0) (k) (by omega) (by omega) (by omega) (by omega)) ⟨hx, hb, hml, hown, hts⟩ (cwV 2 hts gX0_cutByDifference_X0_low rfl rfl rfl (by decide +kernel) ⟨Nat.le_of_ble_eq_true rfl, Nat.le_of_ble_eq_true rfl⟩) hK hP hD hS hA rfl rfl rfl rfl hl.1 rfl (Nat.le_of_ble_eq_true rfl) dX0_cutByDifference_39 ⟨Nat.zero_le _, Nat.zero_le _⟩ (fun r39 u39 H locs q39 hP hD hS => ?_)
        try dsimp only at q39
        have hP : va_P D vwCl (WS cI ad lo1 hi1) H := hP
        have hD : va_D A (WS cI ad lo1 hi1) := hD
        have y39 : r39.toInt = (lo (3 * c0 + k)).toInt := by rw [q39, (hin (3 * c0 + k) (by omega)).1]
        have z39 := bd_at h6 (k := k) (by omega)
        refine c_isub hx hb dX0_cutByDifference_42 (by omega) (fun v42 i42 => ?_)
        refine c_wvv (As := [.int p1, .int x4, .int v27, .int v42]) (ci := 0) (q0 := 0) (kX0_cut l D cI ad lo1 hi1 p1 x4 v27 v42 (a) (k) (by omega) (by omega) (by omega) (by omega)) ⟨hx, hb, hml, hown, hts⟩ (cwV 4 hts gX0_cutByDifference_X0_cut rfl rfl rfl (by decide +kernel) ⟨Nat.le_of_ble_eq_true rfl, Nat.le_of_ble_eq_true rfl⟩) hK hP hD hS hA rfl rfl rfl rfl hl.1 rfl (Nat.le_of_ble_eq_true rfl) dX0_cutByDifference_43 ⟨Nat.zero_le _, Nat.zero_le _⟩ (fun u43 H locs q43 hP hD hS => ?_)
        try dsimp only at q43
        have hP : va_P D vwCl (WS cI ad (upd lo1 (3 * (a) + (k)) u43.1) (upd hi1 (3 * (a) + (k)) u43.2)) H := hP
        have hD : va_D A (WS cI ad (upd lo1 (3 * (a) + (k)) u43.1) (upd hi1 (3 * (a) + (k)) u43.2)) := hD
        rw [(hin (3 * a + k) (by omega)).1, (hin (3 * a + k) (by omega)).2] at q43
        refine c_iinc (k := 4) hx hb (fun v46 => [(4, .int v46), (0, .ref (ad 13)), (1, .int p1), (2, .int p2), (3, .int p3)]) dX0_cutByDifference_46 hl rfl (by decide) (by omega) (by decide) (fun _ => rfl) (fun v46 ls i46 hl => ?_)
        have hl : lv_has ls 5 [(4, .int v46), (0, .ref (ad 13)), (1, .int p1), (2, .int p2), (3, .int p3)] := hl
        refine lv_goto (tgt := 3) hx hb dX0_cutByDifference_49 (by decide) ?_
        exact ih3 (k + 1) v46 (upd lo1 (3 * a + k) u43.1) (upd hi1 (3 * a + k) u43.2) _ _ _ (by omega) (by omega) (by omega) (fun j hj => ⟨(pk_un (by omega)).trans (hin j (by omega)).1, (pk_un (by omega)).trans (hin j (by omega)).2⟩) (fun w hw => by
                  rcases Nat.lt_or_ge w k with q | q
                  · rw [pk_un (by omega), pk_un (by omega)]; exact hva w q
                  · have hwk : w = k := by omega
                    subst hwk; rw [pk_us, pk_us]
                    have e1 : u43.1.toInt = max _ _ := q43.1
                    have e2 : u43.2.toInt = min _ _ := q43.2
                    rw [e1, e2, i27, i42, y17, y24, y32, y39]; exact ⟨rfl, rfl⟩) hP hD hS (lv_sub hl [1, 2, 3, 4, 0] rfl)
  exact HL3 4 0 v0 lo hi _ _ _ (by omega) (by omega) (by omega) (fun j _ => ⟨rfl, rfl⟩) (fun w h => absurd h (by omega)) hP hD hS (lv_sub hl [1, 2, 3, 4, 0] rfl)
set_option maxHeartbeats 4000000 in
set_option maxRecDepth 100000 in
theorem kX0_isSpan (l : Launch) (D : va_G) (cI : ClassId) (ad : Nat → Nat) (lo : Nat → Int32) (hi : Nat → Int32) (p1 : Int32) (p2 : Int32) (a : Nat) (w : Nat) (h1 : p1.toInt = (a : Int)) (h2 : p2.toInt = (w : Int)) (h3 : a ≤ 61) (h4 : w ≤ 2) : MI l yX0_isSpan wsX0_isSpan ({ frames := 2, cells := 0, slots := 0, locals := 43 } : Room) D [(cI, .int)] [.ref (ad 13), .int p1, .int p2] (WS cI ad lo hi) (fun u : Unit => (WS cI ad lo hi)) (fun (r : Int32) (_ : Unit) => (r.toInt = 1 ∧ (lo (3 * a + w)).toInt ≤ (hi (3 * a + w)).toInt) ∨ (r.toInt = 0 ∧ (hi (3 * a + w)).toInt < (lo (3 * a + w)).toInt)) := by
  refine c_ent (cc := cX0_isSpan) (maxL := 3) (ret := (some .boolean)) (Qc := fun A => va_Qi (fun (r : Int32) (_ : Unit) => (r.toInt = 1 ∧ (lo (3 * a + w)).toInt ≤ (hi (3 * a + w)).toInt) ∨ (r.toInt = 0 ∧ (hi (3 * a + w)).toInt < (lo (3 * a + w)).toInt)) (cB D [(cI, .int)] A (fun u : Unit => (WS cI ad lo hi))) A) (by decide) rfl (Nat.le_of_ble_eq_true rfl) ?_
  intro p e s m below meth c A ls hx hb hr hlocks hts hown hml hK hP hD hA hl
  have hS : va_S A s.heap s.heap [] := va_S.rf
  have hl : lv_has ls 3 [(0, .ref (ad 13)), (1, .int p1), (2, .int p2)] := hl
  have hP : va_P D vwCl (WS cI ad lo hi) s.heap := hP
  refine lv_aload_n hx hb dX0_isSpan_0 rfl (lv_at hl 0 rfl) ?_
  refine lv_iload_n hx hb dX0_isSpan_1 rfl (lv_at hl 1 rfl) ?_
  refine lv_iload_n hx hb dX0_isSpan_2 rfl (lv_at hl 2 rfl) ?_
  refine c_wvi (As := [.int p1, .int p2]) (ci := 0) (q0 := 0) (kX0_low l D cI ad lo hi p1 p2 (a) (w) (by omega) (by omega) (by omega) (by omega)) ⟨hx, hb, hml, hown, hts⟩ (cwV 2 hts gX0_isSpan_X0_low rfl rfl rfl (by decide +kernel) ⟨Nat.le_of_ble_eq_true rfl, Nat.le_of_ble_eq_true rfl⟩) hK hP hD hS hA rfl rfl rfl rfl hl.1 rfl (Nat.le_of_ble_eq_true rfl) dX0_isSpan_3 ⟨Nat.zero_le _, Nat.zero_le _⟩ (fun r3 u3 H locs q3 hP hD hS => ?_)
  try dsimp only at q3
  have hP : va_P D vwCl (WS cI ad lo hi) H := hP
  have hD : va_D A (WS cI ad lo hi) := hD
  have y3 : r3.toInt = (lo (3 * a + w)).toInt := by rw [q3]
  refine lv_aload_n hx hb dX0_isSpan_6 rfl (lv_at hl 0 rfl) ?_
  refine lv_iload_n hx hb dX0_isSpan_7 rfl (lv_at hl 1 rfl) ?_
  refine lv_iload_n hx hb dX0_isSpan_8 rfl (lv_at hl 2 rfl) ?_
  refine c_wvi (As := [.int p1, .int p2]) (ci := 0) (q0 := 0) (kX0_high l D cI ad lo hi p1 p2 (a) (w) (by omega) (by omega) (by omega) (by omega)) ⟨hx, hb, hml, hown, hts⟩ (cwV 2 hts gX0_isSpan_X0_high rfl rfl rfl (by decide +kernel) ⟨Nat.le_of_ble_eq_true rfl, Nat.le_of_ble_eq_true rfl⟩) hK hP hD hS hA rfl rfl rfl rfl hl.1 rfl (Nat.le_of_ble_eq_true rfl) dX0_isSpan_9 ⟨Nat.zero_le _, Nat.zero_le _⟩ (fun r9 u9 H locs q9 hP hD hS => ?_)
  try dsimp only at q9
  have hP : va_P D vwCl (WS cI ad lo hi) H := hP
  have hD : va_D A (WS cI ad lo hi) := hD
  have y9 : r9.toInt = (hi (3 * a + w)).toInt := by rw [q9]
  refine c_icmp_gt (tgt := 19) hx hb dX0_isSpan_12 (by decide) (fun c12 => ?_) (fun c12 => ?_)
  · skip
    refine c_iconst hx hb dX0_isSpan_19 (by decide) (fun v19 i19 => ?_)
    exact c_rz () hx hb hr hlocks hK hP hD hS dX0_isSpan_20 (by omega) (by (try dsimp only); omega)
  · skip
    refine c_iconst hx hb dX0_isSpan_15 (by decide) (fun v15 i15 => ?_)
    refine lv_goto (tgt := 20) hx hb dX0_isSpan_16 (by decide) ?_
    exact c_rz () hx hb hr hlocks hK hP hD hS dX0_isSpan_20 (by omega) (by (try dsimp only); omega)
set_option maxHeartbeats 4000000 in
set_option maxRecDepth 100000 in
theorem kX0_tighten (l : Launch) (D : va_G) (cI : ClassId) (ad : Nat → Nat) (lo : Nat → Int32) (hi : Nat → Int32) (p1 : Int32) (a : Nat) (h1 : p1.toInt = (a : Int)) (h2 : a ≤ 61) (h3 : bd (rwX lo hi a) 100000000) : MI l yX0_tighten wsX0_tighten ({ frames := 3, cells := 0, slots := 0, locals := 65 } : Room) D [(cI, .int)] [.ref (ad 13), .int p1] (WS cI ad lo hi) (fun u : (Nat → Int32) × (Nat → Int32) => (WS cI ad u.1 u.2)) (fun (r : Int32) (u : (Nat → Int32) × (Nat → Int32)) => isTg (rwX u.1 u.2 a) (rwX lo hi a) ∧ (∀ j, (j < 3 * a ∨ 3 * a + 3 ≤ j) → u.1 j = lo j ∧ u.2 j = hi j) ∧ ((r.toInt = 1 ∧ ok6 (rwX u.1 u.2 a)) ∨ (r.toInt = 0 ∧ ¬ ok6 (rwX u.1 u.2 a)))) := by
  refine c_ent (cc := cX0_tighten) (maxL := 8) (ret := (some .boolean)) (Qc := fun A => va_Qi (fun (r : Int32) (u : (Nat → Int32) × (Nat → Int32)) => isTg (rwX u.1 u.2 a) (rwX lo hi a) ∧ (∀ j, (j < 3 * a ∨ 3 * a + 3 ≤ j) → u.1 j = lo j ∧ u.2 j = hi j) ∧ ((r.toInt = 1 ∧ ok6 (rwX u.1 u.2 a)) ∨ (r.toInt = 0 ∧ ¬ ok6 (rwX u.1 u.2 a)))) (cB D [(cI, .int)] A (fun u : (Nat → Int32) × (Nat → Int32) => (WS cI ad u.1 u.2))) A) (by decide) rfl (Nat.le_of_ble_eq_true rfl) ?_
  intro p e s m below meth c A ls hx hb hr hlocks hts hown hml hK hP hD hA hl
  have hS : va_S A s.heap s.heap [] := va_S.rf
  have hl : lv_has ls 8 [(0, .ref (ad 13)), (1, .int p1)] := hl
  have hP : va_P D vwCl (WS cI ad lo hi) s.heap := hP
  obtain ⟨b0, b1, b2, b3, b4, b5⟩ := id h3
  refine lv_aload_n hx hb dX0_tighten_0 rfl (lv_at hl 0 rfl) ?_
  refine lv_iload_n hx hb dX0_tighten_1 rfl (lv_at hl 1 rfl) ?_
  refine c_iconst hx hb dX0_tighten_2 (by decide) (fun v2 i2 => ?_)
  refine c_wvi (As := [.int p1, .int v2]) (ci := 0) (q0 := 0) (kX0_low l D cI ad lo hi p1 v2 (a) (0) (by omega) (by omega) (by omega) (by omega)) ⟨hx, hb, hml, hown, hts⟩ (cwV 2 hts gX0_tighten_X0_low rfl rfl rfl (by decide +kernel) ⟨Nat.le_of_ble_eq_true rfl, Nat.le_of_ble_eq_true rfl⟩) hK hP hD hS hA rfl rfl rfl rfl hl.1 rfl (Nat.le_of_ble_eq_true rfl) dX0_tighten_3 ⟨Nat.zero_le _, Nat.zero_le _⟩ (fun r3 u3 H locs q3 hP hD hS => ?_)
  try dsimp only at q3
  have hP : va_P D vwCl (WS cI ad lo hi) H := hP
  have hD : va_D A (WS cI ad lo hi) := hD
  have y3 : r3.toInt = rwX lo hi a 0 := by rw [q3]; rfl
  refine lv_istore_n (lv' := [(2, .int r3), (0, .ref (ad 13)), (1, .int p1)]) hx hb dX0_tighten_6 rfl hl (by decide) rfl (fun ls hl => ?_)
  refine lv_aload_n hx hb dX0_tighten_7 rfl (lv_at hl 1 rfl) ?_
  refine lv_iload_n hx hb dX0_tighten_8 rfl (lv_at hl 2 rfl) ?_
  refine c_iconst hx hb dX0_tighten_9 (by decide) (fun v9 i9 => ?_)
  refine c_wvi (As := [.int p1, .int v9]) (ci := 0) (q0 := 0) (kX0_high l D cI ad lo hi p1 v9 (a) (0) (by omega) (by omega) (by omega) (by omega)) ⟨hx, hb, hml, hown, hts⟩ (cwV 2 hts gX0_tighten_X0_high rfl rfl rfl (by decide +kernel) ⟨Nat.le_of_ble_eq_true rfl, Nat.le_of_ble_eq_true rfl⟩) hK hP hD hS hA rfl rfl rfl rfl hl.1 rfl (Nat.le_of_ble_eq_true rfl) dX0_tighten_10 ⟨Nat.zero_le _, Nat.zero_le _⟩ (fun r10 u10 H locs q10 hP hD hS => ?_)
  try dsimp only at q10
  have hP : va_P D vwCl (WS cI ad lo hi) H := hP
  have hD : va_D A (WS cI ad lo hi) := hD
  have y10 : r10.toInt = rwX lo hi a 1 := by rw [q10]; rfl
  refine lv_istore_n (lv' := [(3, .int r10), (2, .int r3), (0, .ref (ad 13)), (1, .int p1)]) hx hb dX0_tighten_13 rfl hl (by decide) rfl (fun ls hl => ?_)
  refine lv_aload_n hx hb dX0_tighten_14 rfl (lv_at hl 2 rfl) ?_
  refine lv_iload_n hx hb dX0_tighten_15 rfl (lv_at hl 3 rfl) ?_
  refine c_iconst hx hb dX0_tighten_16 (by decide) (fun v16 i16 => ?_)
  refine c_wvi (As := [.int p1, .int v16]) (ci := 0) (q0 := 0) (kX0_low l D cI ad lo hi p1 v16 (a) (1) (by omega) (by omega) (by omega) (by omega)) ⟨hx, hb, hml, hown, hts⟩ (cwV 2 hts gX0_tighten_X0_low rfl rfl rfl (by decide +kernel) ⟨Nat.le_of_ble_eq_true rfl, Nat.le_of_ble_eq_true rfl⟩) hK hP hD hS hA rfl rfl rfl rfl hl.1 rfl (Nat.le_of_ble_eq_true rfl) dX0_tighten_17 ⟨Nat.zero_le _, Nat.zero_le _⟩ (fun r17 u17 H locs q17 hP hD hS => ?_)
  try dsimp only at q17
  have hP : va_P D vwCl (WS cI ad lo hi) H := hP
  have hD : va_D A (WS cI ad lo hi) := hD
  have y17 : r17.toInt = rwX lo hi a 2 := by rw [q17]; rfl
  refine lv_istore (lv' := [(4, .int r17), (3, .int r10), (2, .int r3), (0, .ref (ad 13)), (1, .int p1)]) hx hb dX0_tighten_20 hl (by decide) rfl (fun ls hl => ?_)
  refine lv_aload_n hx hb dX0_tighten_22 rfl (lv_at hl 3 rfl) ?_
  refine lv_iload_n hx hb dX0_tighten_23 rfl (lv_at hl 4 rfl) ?_
  refine c_iconst hx hb dX0_tighten_24 (by decide) (fun v24 i24 => ?_)
  refine c_wvi (As := [.int p1, .int v24]) (ci := 0) (q0 := 0) (kX0_high l D cI ad lo hi p1 v24 (a) (1) (by omega) (by omega) (by omega) (by omega)) ⟨hx, hb, hml, hown, hts⟩ (cwV 2 hts gX0_tighten_X0_high rfl rfl rfl (by decide +kernel) ⟨Nat.le_of_ble_eq_true rfl, Nat.le_of_ble_eq_true rfl⟩) hK hP hD hS hA rfl rfl rfl rfl hl.1 rfl (Nat.le_of_ble_eq_true rfl) dX0_tighten_25 ⟨Nat.zero_le _, Nat.zero_le _⟩ (fun r25 u25 H locs q25 hP hD hS => ?_)
  try dsimp only at q25
  have hP : va_P D vwCl (WS cI ad lo hi) H := hP
  have hD : va_D A (WS cI ad lo hi) := hD
  have y25 : r25.toInt = rwX lo hi a 3 := by rw [q25]; rfl
  refine lv_istore (lv' := [(5, .int r25), (4, .int r17), (3, .int r10), (2, .int r3), (0, .ref (ad 13)), (1, .int p1)]) hx hb dX0_tighten_28 hl (by decide) rfl (fun ls hl => ?_)
  refine lv_aload_n hx hb dX0_tighten_30 rfl (lv_at hl 4 rfl) ?_
  refine lv_iload_n hx hb dX0_tighten_31 rfl (lv_at hl 5 rfl) ?_
  refine c_iconst hx hb dX0_tighten_32 (by decide) (fun v32 i32 => ?_)
  refine c_wvi (As := [.int p1, .int v32]) (ci := 0) (q0 := 0) (kX0_low l D cI ad lo hi p1 v32 (a) (2) (by omega) (by omega) (by omega) (by omega)) ⟨hx, hb, hml, hown, hts⟩ (cwV 2 hts gX0_tighten_X0_low rfl rfl rfl (by decide +kernel) ⟨Nat.le_of_ble_eq_true rfl, Nat.le_of_ble_eq_true rfl⟩) hK hP hD hS hA rfl rfl rfl rfl hl.1 rfl (Nat.le_of_ble_eq_true rfl) dX0_tighten_33 ⟨Nat.zero_le _, Nat.zero_le _⟩ (fun r33 u33 H locs q33 hP hD hS => ?_)
  try dsimp only at q33
  have hP : va_P D vwCl (WS cI ad lo hi) H := hP
  have hD : va_D A (WS cI ad lo hi) := hD
  have y33 : r33.toInt = rwX lo hi a 4 := by rw [q33]; rfl
  refine lv_istore (lv' := [(6, .int r33), (5, .int r25), (4, .int r17), (3, .int r10), (2, .int r3), (0, .ref (ad 13)), (1, .int p1)]) hx hb dX0_tighten_36 hl (by decide) rfl (fun ls hl => ?_)
  refine lv_aload_n hx hb dX0_tighten_38 rfl (lv_at hl 5 rfl) ?_
  refine lv_iload_n hx hb dX0_tighten_39 rfl (lv_at hl 6 rfl) ?_
  refine c_iconst hx hb dX0_tighten_40 (by decide) (fun v40 i40 => ?_)
  refine c_wvi (As := [.int p1, .int v40]) (ci := 0) (q0 := 0) (kX0_high l D cI ad lo hi p1 v40 (a) (2) (by omega) (by omega) (by omega) (by omega)) ⟨hx, hb, hml, hown, hts⟩ (cwV 2 hts gX0_tighten_X0_high rfl rfl rfl (by decide +kernel) ⟨Nat.le_of_ble_eq_true rfl, Nat.le_of_ble_eq_true rfl⟩) hK hP hD hS hA rfl rfl rfl rfl hl.1 rfl (Nat.le_of_ble_eq_true rfl) dX0_tighten_41 ⟨Nat.zero_le _, Nat.zero_le _⟩ (fun r41 u41 H locs q41 hP hD hS => ?_)
  try dsimp only at q41
  have hP : va_P D vwCl (WS cI ad lo hi) H := hP
  have hD : va_D A (WS cI ad lo hi) := hD
  have y41 : r41.toInt = rwX lo hi a 5 := by rw [q41]; rfl
  refine lv_istore (lv' := [(7, .int r41), (6, .int r33), (5, .int r25), (4, .int r17), (3, .int r10), (2, .int r3), (0, .ref (ad 13)), (1, .int p1)]) hx hb dX0_tighten_44 hl (by decide) rfl (fun ls hl => ?_)
  refine lv_aload_n hx hb dX0_tighten_46 rfl (lv_at hl 6 rfl) ?_
  refine lv_iload_n hx hb dX0_tighten_47 rfl (lv_at hl 7 rfl) ?_
  refine c_iconst hx hb dX0_tighten_48 (by decide) (fun v48 i48 => ?_)
  refine lv_iload hx hb dX0_tighten_49 (lv_at hl 1 rfl) ?_
  refine lv_iload hx hb dX0_tighten_51 (lv_at hl 2 rfl) ?_
  refine c_isub hx hb dX0_tighten_53 (by omega) (fun v53 i53 => ?_)
  refine lv_iload hx hb dX0_tighten_54 (lv_at hl 0 rfl) ?_
  refine lv_iload hx hb dX0_tighten_56 (lv_at hl 3 rfl) ?_
  refine c_isub hx hb dX0_tighten_58 (by omega) (fun v58 i58 => ?_)
  refine c_wvv (As := [.int p1, .int v48, .int v53, .int v58]) (ci := 0) (q0 := 0) (kX0_cut l D cI ad lo hi p1 v48 v53 v58 (a) (0) (by omega) (by omega) (by omega) (by omega)) ⟨hx, hb, hml, hown, hts⟩ (cwV 4 hts gX0_tighten_X0_cut rfl rfl rfl (by decide +kernel) ⟨Nat.le_of_ble_eq_true rfl, Nat.le_of_ble_eq_true rfl⟩) hK hP hD hS hA rfl rfl rfl rfl hl.1 rfl (Nat.le_of_ble_eq_true rfl) dX0_tighten_59 ⟨Nat.zero_le _, Nat.zero_le _⟩ (fun u59 H locs q59 hP hD hS => ?_)
  try dsimp only at q59
  have hP : va_P D vwCl (WS cI ad (upd lo (3 * (a) + (0)) u59.1) (upd hi (3 * (a) + (0)) u59.2)) H := hP
  have hD : va_D A (WS cI ad (upd lo (3 * (a) + (0)) u59.1) (upd hi (3 * (a) + (0)) u59.2)) := hD
  have y59 : isMx u59.1.toInt (rwX lo hi a 0) v53.toInt ∧ isMn u59.2.toInt (rwX lo hi a 1) v58.toInt := q59
  refine lv_aload_n hx hb dX0_tighten_62 rfl (lv_at hl 6 rfl) ?_
  refine lv_iload_n hx hb dX0_tighten_63 rfl (lv_at hl 7 rfl) ?_
  refine c_iconst hx hb dX0_tighten_64 (by decide) (fun v64 i64 => ?_)
  refine lv_iload hx hb dX0_tighten_65 (lv_at hl 1 rfl) ?_
  refine lv_iload_n hx hb dX0_tighten_67 rfl (lv_at hl 4 rfl) ?_
  refine c_isub hx hb dX0_tighten_68 (by omega) (fun v68 i68 => ?_)
  refine lv_iload hx hb dX0_tighten_69 (lv_at hl 0 rfl) ?_
  refine lv_iload_n hx hb dX0_tighten_71 rfl (lv_at hl 5 rfl) ?_
  refine c_isub hx hb dX0_tighten_72 (by omega) (fun v72 i72 => ?_)
  refine c_wvv (As := [.int p1, .int v64, .int v68, .int v72]) (ci := 0) (q0 := 0) (kX0_cut l D cI ad (upd lo (3 * (a) + (0)) u59.1) (upd hi (3 * (a) + (0)) u59.2) p1 v64 v68 v72 (a) (1) (by omega) (by omega) (by omega) (by omega)) ⟨hx, hb, hml, hown, hts⟩ (cwV 4 hts gX0_tighten_X0_cut rfl rfl rfl (by decide +kernel) ⟨Nat.le_of_ble_eq_true rfl, Nat.le_of_ble_eq_true rfl⟩) hK hP hD hS hA rfl rfl rfl rfl hl.1 rfl (Nat.le_of_ble_eq_true rfl) dX0_tighten_73 ⟨Nat.zero_le _, Nat.zero_le _⟩ (fun u73 H locs q73 hP hD hS => ?_)
  try dsimp only at q73
  have hP : va_P D vwCl (WS cI ad (upd (upd lo (3 * (a) + (0)) u59.1) (3 * (a) + (1)) u73.1) (upd (upd hi (3 * (a) + (0)) u59.2) (3 * (a) + (1)) u73.2)) H := hP
  have hD : va_D A (WS cI ad (upd (upd lo (3 * (a) + (0)) u59.1) (3 * (a) + (1)) u73.1) (upd (upd hi (3 * (a) + (0)) u59.2) (3 * (a) + (1)) u73.2)) := hD
  rw [pk_un (by omega), pk_un (by omega)] at q73
  have y73 : isMx u73.1.toInt (rwX lo hi a 2) v68.toInt ∧ isMn u73.2.toInt (rwX lo hi a 3) v72.toInt := q73
  refine lv_aload_n hx hb dX0_tighten_76 rfl (lv_at hl 6 rfl) ?_
  refine lv_iload_n hx hb dX0_tighten_77 rfl (lv_at hl 7 rfl) ?_
  refine c_iconst hx hb dX0_tighten_78 (by decide) (fun v78 i78 => ?_)
  refine lv_iload_n hx hb dX0_tighten_79 rfl (lv_at hl 5 rfl) ?_
  refine lv_iload hx hb dX0_tighten_80 (lv_at hl 3 rfl) ?_
  refine c_iadd hx hb dX0_tighten_82 (by omega) (fun v82 i82 => ?_)
  refine lv_iload_n hx hb dX0_tighten_83 rfl (lv_at hl 4 rfl) ?_
  refine lv_iload hx hb dX0_tighten_84 (lv_at hl 2 rfl) ?_
  refine c_iadd hx hb dX0_tighten_86 (by omega) (fun v86 i86 => ?_)
  refine c_wvv (As := [.int p1, .int v78, .int v82, .int v86]) (ci := 0) (q0 := 0) (kX0_cut l D cI ad (upd (upd lo (3 * (a) + (0)) u59.1) (3 * (a) + (1)) u73.1) (upd (upd hi (3 * (a) + (0)) u59.2) (3 * (a) + (1)) u73.2) p1 v78 v82 v86 (a) (2) (by omega) (by omega) (by omega) (by omega)) ⟨hx, hb, hml, hown, hts⟩ (cwV 4 hts gX0_tighten_X0_cut rfl rfl rfl (by decide +kernel) ⟨Nat.le_of_ble_eq_true rfl, Nat.le_of_ble_eq_true rfl⟩) hK hP hD hS hA rfl rfl rfl rfl hl.1 rfl (Nat.le_of_ble_eq_true rfl) dX0_tighten_87 ⟨Nat.zero_le _, Nat.zero_le _⟩ (fun u87 H locs q87 hP hD hS => ?_)
  try dsimp only at q87
  have hP : va_P D vwCl (WS cI ad (upd (upd (upd lo (3 * (a) + (0)) u59.1) (3 * (a) + (1)) u73.1) (3 * (a) + (2)) u87.1) (upd (upd (upd hi (3 * (a) + (0)) u59.2) (3 * (a) + (1)) u73.2) (3 * (a) + (2)) u87.2)) H := hP
  have hD : va_D A (WS cI ad (upd (upd (upd lo (3 * (a) + (0)) u59.1) (3 * (a) + (1)) u73.1) (3 * (a) + (2)) u87.1) (upd (upd (upd hi (3 * (a) + (0)) u59.2) (3 * (a) + (1)) u73.2) (3 * (a) + (2)) u87.2)) := hD
  rw [pk_un (by omega), pk_un (by omega), pk_un (by omega), pk_un (by omega)] at q87
  have y87 : isMx u87.1.toInt (rwX lo hi a 4) v82.toInt ∧ isMn u87.2.toInt (rwX lo hi a 5) v86.toInt := q87
  have U1 := up3 lo a u59.1 u73.1 u87.1
  have U2 := up3 hi a u59.2 u73.2 u87.2
  obtain ⟨lo3, elo⟩ : ∃ z, z = (upd (upd (upd lo (3 * (a) + (0)) u59.1) (3 * (a) + (1)) u73.1) (3 * (a) + (2)) u87.1) := ⟨_, rfl⟩
  obtain ⟨hi3, ehi⟩ : ∃ z, z = (upd (upd (upd hi (3 * (a) + (0)) u59.2) (3 * (a) + (1)) u73.2) (3 * (a) + (2)) u87.2) := ⟨_, rfl⟩
  rw [← elo, ← ehi] at hP hD
  rw [← elo] at U1
  rw [← ehi] at U2
  have f0 : (lo3 (3 * a + 0)).toInt = u59.1.toInt := by rw [U1.1.1]
  have f1 : (hi3 (3 * a + 0)).toInt = u59.2.toInt := by rw [U2.1.1]
  have f2 : (lo3 (3 * a + 1)).toInt = u73.1.toInt := by rw [U1.1.2.1]
  have f3 : (hi3 (3 * a + 1)).toInt = u73.2.toInt := by rw [U2.1.2.1]
  have f4 : (lo3 (3 * a + 2)).toInt = u87.1.toInt := by rw [U1.1.2.2]
  have f5 : (hi3 (3 * a + 2)).toInt = u87.2.toInt := by rw [U2.1.2.2]
  have hTg : isTg (rwX lo3 hi3 a) (rwX lo hi a) := by
    have e0 : rwX lo3 hi3 a 0 = (lo3 (3 * a + 0)).toInt := rfl
    have e1 : rwX lo3 hi3 a 1 = (hi3 (3 * a + 0)).toInt := rfl
    have e2 : rwX lo3 hi3 a 2 = (lo3 (3 * a + 1)).toInt := rfl
    have e3 : rwX lo3 hi3 a 3 = (hi3 (3 * a + 1)).toInt := rfl
    have e4 : rwX lo3 hi3 a 4 = (lo3 (3 * a + 2)).toInt := rfl
    have e5 : rwX lo3 hi3 a 5 = (hi3 (3 * a + 2)).toInt := rfl
    have g0 : u59.1.toInt = max _ _ := y59.1
    have g1 : u59.2.toInt = min _ _ := y59.2
    have g2 : u73.1.toInt = max _ _ := y73.1
    have g3 : u73.2.toInt = min _ _ := y73.2
    have g4 : u87.1.toInt = max _ _ := y87.1
    have g5 : u87.2.toInt = min _ _ := y87.2
    unfold isTg
    exact ⟨by rw [e0, f0, g0, i53, y33, y25], by rw [e1, f1, g1, i58, y41, y17], by rw [e2, f2, g2, i68, y33, y10], by rw [e3, f3, g3, i72, y41, y3], by rw [e4, f4, g4, i82, y3, y17], by rw [e5, f5, g5, i86, y10, y25]⟩
  have hOk : ok6 (rwX lo3 hi3 a) ↔ ((lo3 (3 * a + 0)).toInt ≤ (hi3 (3 * a + 0)).toInt ∧ (lo3 (3 * a + 1)).toInt ≤ (hi3 (3 * a + 1)).toInt ∧ (lo3 (3 * a + 2)).toInt ≤ (hi3 (3 * a + 2)).toInt) := Iff.rfl
  refine lv_aload_n hx hb dX0_tighten_90 rfl (lv_at hl 6 rfl) ?_
  refine lv_iload_n hx hb dX0_tighten_91 rfl (lv_at hl 7 rfl) ?_
  refine c_iconst hx hb dX0_tighten_92 (by decide) (fun v92 i92 => ?_)
  refine c_wvi (As := [.int p1, .int v92]) (ci := 0) (q0 := 0) (kX0_isSpan l D cI ad lo3 hi3 p1 v92 (a) (0) (by omega) (by omega) (by omega) (by omega)) ⟨hx, hb, hml, hown, hts⟩ (cwV 2 hts gX0_tighten_X0_isSpan rfl rfl rfl (by decide +kernel) ⟨Nat.le_of_ble_eq_true rfl, Nat.le_of_ble_eq_true rfl⟩) hK hP hD hS hA rfl rfl rfl rfl hl.1 rfl (Nat.le_of_ble_eq_true rfl) dX0_tighten_93 ⟨Nat.zero_le _, Nat.zero_le _⟩ (fun r93 u93 H locs q93 hP hD hS => ?_)
  try dsimp only at q93
  have hP : va_P D vwCl (WS cI ad lo3 hi3) H := hP
  have hD : va_D A (WS cI ad lo3 hi3) := hD
  refine c_if_eq (tgt := 121) hx hb dX0_tighten_96 (by decide) (fun c96 => ?_) (fun c96 => ?_)
  · skip
    refine c_iconst hx hb dX0_tighten_121 (by decide) (fun v121 i121 => ?_)
    exact c_rz (lo3, hi3) hx hb hr hlocks hK hP hD hS dX0_tighten_122 (by omega) ⟨hTg, (fun j hj => ⟨U1.2 j hj, U2.2 j hj⟩), (by dsimp only; rw [hOk]; omega)⟩
  · skip
    refine lv_aload_n hx hb dX0_tighten_99 rfl (lv_at hl 6 rfl) ?_
    refine lv_iload_n hx hb dX0_tighten_100 rfl (lv_at hl 7 rfl) ?_
    refine c_iconst hx hb dX0_tighten_101 (by decide) (fun v101 i101 => ?_)
    refine c_wvi (As := [.int p1, .int v101]) (ci := 0) (q0 := 0) (kX0_isSpan l D cI ad lo3 hi3 p1 v101 (a) (1) (by omega) (by omega) (by omega) (by omega)) ⟨hx, hb, hml, hown, hts⟩ (cwV 2 hts gX0_tighten_X0_isSpan rfl rfl rfl (by decide +kernel) ⟨Nat.le_of_ble_eq_true rfl, Nat.le_of_ble_eq_true rfl⟩) hK hP hD hS hA rfl rfl rfl rfl hl.1 rfl (Nat.le_of_ble_eq_true rfl) dX0_tighten_102 ⟨Nat.zero_le _, Nat.zero_le _⟩ (fun r102 u102 H locs q102 hP hD hS => ?_)
    try dsimp only at q102
    have hP : va_P D vwCl (WS cI ad lo3 hi3) H := hP
    have hD : va_D A (WS cI ad lo3 hi3) := hD
    refine c_if_eq (tgt := 121) hx hb dX0_tighten_105 (by decide) (fun c105 => ?_) (fun c105 => ?_)
    · skip
      refine c_iconst hx hb dX0_tighten_121 (by decide) (fun v121_2 i121_2 => ?_)
      exact c_rz (lo3, hi3) hx hb hr hlocks hK hP hD hS dX0_tighten_122 (by omega) ⟨hTg, (fun j hj => ⟨U1.2 j hj, U2.2 j hj⟩), (by dsimp only; rw [hOk]; omega)⟩
    · skip
      refine lv_aload_n hx hb dX0_tighten_108 rfl (lv_at hl 6 rfl) ?_
      refine lv_iload_n hx hb dX0_tighten_109 rfl (lv_at hl 7 rfl) ?_
      refine c_iconst hx hb dX0_tighten_110 (by decide) (fun v110 i110 => ?_)
      refine c_wvi (As := [.int p1, .int v110]) (ci := 0) (q0 := 0) (kX0_isSpan l D cI ad lo3 hi3 p1 v110 (a) (2) (by omega) (by omega) (by omega) (by omega)) ⟨hx, hb, hml, hown, hts⟩ (cwV 2 hts gX0_tighten_X0_isSpan rfl rfl rfl (by decide +kernel) ⟨Nat.le_of_ble_eq_true rfl, Nat.le_of_ble_eq_true rfl⟩) hK hP hD hS hA rfl rfl rfl rfl hl.1 rfl (Nat.le_of_ble_eq_true rfl) dX0_tighten_111 ⟨Nat.zero_le _, Nat.zero_le _⟩ (fun r111 u111 H locs q111 hP hD hS => ?_)
      try dsimp only at q111
      have hP : va_P D vwCl (WS cI ad lo3 hi3) H := hP
      have hD : va_D A (WS cI ad lo3 hi3) := hD
      refine c_if_eq (tgt := 121) hx hb dX0_tighten_114 (by decide) (fun c114 => ?_) (fun c114 => ?_)
      · skip
        refine c_iconst hx hb dX0_tighten_121 (by decide) (fun v121_3 i121_3 => ?_)
        exact c_rz (lo3, hi3) hx hb hr hlocks hK hP hD hS dX0_tighten_122 (by omega) ⟨hTg, (fun j hj => ⟨U1.2 j hj, U2.2 j hj⟩), (by dsimp only; rw [hOk]; omega)⟩
      · skip
        refine c_iconst hx hb dX0_tighten_117 (by decide) (fun v117 i117 => ?_)
        refine lv_goto (tgt := 122) hx hb dX0_tighten_118 (by decide) ?_
        exact c_rz (lo3, hi3) hx hb hr hlocks hK hP hD hS dX0_tighten_122 (by omega) ⟨hTg, (fun j hj => ⟨U1.2 j hj, U2.2 j hj⟩), (by dsimp only; rw [hOk]; omega)⟩
end
section
set_option maxHeartbeats 4000000 in
set_option maxRecDepth 100000 in
theorem kX1_within (l : Launch) (D : va_G) (cI : ClassId) (p0 : Int32) (p1 : Int32) (p2 : Int32) : MI l yX1_within wsX1_within ({ frames := 0, cells := 0, slots := 0, locals := 0 } : Room) D [(cI, .int)] [.int p0, .int p1, .int p2] [] (fun u : Unit => []) (fun (r : Int32) (_ : Unit) => ((r.toInt = 1 ∧ (p1.toInt ≤ p0.toInt ∧ p0.toInt ≤ p2.toInt)) ∨ (r.toInt = 0 ∧ ¬ (p1.toInt ≤ p0.toInt ∧ p0.toInt ≤ p2.toInt)))) := by
  refine c_ent (cc := cX1_within) (maxL := 3) (ret := (some .boolean)) (Qc := fun A => va_Qi (fun (r : Int32) (_ : Unit) => ((r.toInt = 1 ∧ (p1.toInt ≤ p0.toInt ∧ p0.toInt ≤ p2.toInt)) ∨ (r.toInt = 0 ∧ ¬ (p1.toInt ≤ p0.toInt ∧ p0.toInt ≤ p2.toInt)))) (cB D [(cI, .int)] A (fun u : Unit => [])) A) (by decide) rfl (Nat.le_of_ble_eq_true rfl) ?_
  intro p e s m below meth c A ls hx hb hr hlocks hts hown hml hK hP hD hA hl
  have hS : va_S A s.heap s.heap [] := va_S.rf
  have hl : lv_has ls 3 [(0, .int p0), (1, .int p1), (2, .int p2)] := hl
  have hP : va_P D vwCl [] s.heap := hP
  refine lv_iload_n hx hb dX1_within_0 rfl (lv_at hl 1 rfl) ?_
  refine lv_iload_n hx hb dX1_within_1 rfl (lv_at hl 0 rfl) ?_
  refine c_icmp_gt (tgt := 14) hx hb dX1_within_2 (by decide) (fun c2 => ?_) (fun c2 => ?_)
  · skip
    refine c_iconst hx hb dX1_within_14 (by decide) (fun v14 i14 => ?_)
    exact c_rz () hx hb hr hlocks hK hP hD hS dX1_within_15 (by omega) (by (try dsimp only); omega)
  · skip
    refine lv_iload_n hx hb dX1_within_5 rfl (lv_at hl 0 rfl) ?_
    refine lv_iload_n hx hb dX1_within_6 rfl (lv_at hl 2 rfl) ?_
    refine c_icmp_gt (tgt := 14) hx hb dX1_within_7 (by decide) (fun c7 => ?_) (fun c7 => ?_)
    · skip
      refine c_iconst hx hb dX1_within_14 (by decide) (fun v14_2 i14_2 => ?_)
      exact c_rz () hx hb hr hlocks hK hP hD hS dX1_within_15 (by omega) (by (try dsimp only); omega)
    · skip
      refine c_iconst hx hb dX1_within_10 (by decide) (fun v10 i10 => ?_)
      refine lv_goto (tgt := 15) hx hb dX1_within_11 (by decide) ?_
      exact c_rz () hx hb hr hlocks hK hP hD hS dX1_within_15 (by omega) (by (try dsimp only); omega)
set_option maxHeartbeats 4000000 in
set_option maxRecDepth 100000 in
theorem kX1_isWhat (l : Launch) (D : va_G) (cI : ClassId) (p0 : Int32) : MI l yX1_isWhat wsX1_isWhat ({ frames := 1, cells := 0, slots := 0, locals := 22 } : Room) D [(cI, .int)] [.int p0] [] (fun u : Unit => []) (fun (r : Int32) (_ : Unit) => ((r.toInt = 1 ∧ (0 ≤ p0.toInt ∧ p0.toInt ≤ 2)) ∨ (r.toInt = 0 ∧ ¬ (0 ≤ p0.toInt ∧ p0.toInt ≤ 2)))) := by
  refine c_ent (cc := cX1_isWhat) (maxL := 1) (ret := (some .boolean)) (Qc := fun A => va_Qi (fun (r : Int32) (_ : Unit) => ((r.toInt = 1 ∧ (0 ≤ p0.toInt ∧ p0.toInt ≤ 2)) ∨ (r.toInt = 0 ∧ ¬ (0 ≤ p0.toInt ∧ p0.toInt ≤ 2)))) (cB D [(cI, .int)] A (fun u : Unit => [])) A) (by decide) rfl (Nat.le_of_ble_eq_true rfl) ?_
  intro p e s m below meth c A ls hx hb hr hlocks hts hown hml hK hP hD hA hl
  have hS : va_S A s.heap s.heap [] := va_S.rf
  have hl : lv_has ls 1 [(0, .int p0)] := hl
  have hP : va_P D vwCl [] s.heap := hP
  refine lv_iload_n hx hb dX1_isWhat_0 rfl (lv_at hl 0 rfl) ?_
  refine c_iconst hx hb dX1_isWhat_1 (by decide) (fun v1 i1 => ?_)
  refine c_iconst hx hb dX1_isWhat_2 (by decide) (fun v2 i2 => ?_)
  refine c_cpi (As := [.int p0, .int v1, .int v2]) (kX1_within l D cI p0 v1 v2) ⟨hx, hb, hml, hown, hts⟩ (va_cwS 3 hts gX1_isWhat_X1_within rfl rfl rfl (by decide +kernel) ⟨Nat.le_of_ble_eq_true rfl, Nat.le_of_ble_eq_true rfl⟩) hK hP hS hA rfl hl.1 rfl (Nat.le_of_ble_eq_true rfl) dX1_isWhat_3 ⟨Nat.zero_le _, Nat.zero_le _⟩ (fun r3 H locs q3 hP hS => ?_)
  try dsimp only at q3
  exact c_rz () hx hb hr hlocks hK hP hD hS dX1_isWhat_6 (by omega) (by (try dsimp only); omega)
set_option maxHeartbeats 4000000 in
set_option maxRecDepth 100000 in
theorem kX1_isSpanInside (l : Launch) (D : va_G) (cI : ClassId) (p0 : Int32) (p1 : Int32) : MI l yX1_isSpanInside wsX1_isSpanInside ({ frames := 0, cells := 0, slots := 0, locals := 0 } : Room) D [(cI, .int)] [.int p0, .int p1] [] (fun u : Unit => []) (fun (r : Int32) (_ : Unit) => ((r.toInt = 1 ∧ (0 ≤ p0.toInt ∧ p0.toInt ≤ p1.toInt ∧ p1.toInt ≤ 9999)) ∨ (r.toInt = 0 ∧ ¬ (0 ≤ p0.toInt ∧ p0.toInt ≤ p1.toInt ∧ p1.toInt ≤ 9999)))) := by
  refine c_ent (cc := cX1_isSpanInside) (maxL := 2) (ret := (some .boolean)) (Qc := fun A => va_Qi (fun (r : Int32) (_ : Unit) => ((r.toInt = 1 ∧ (0 ≤ p0.toInt ∧ p0.toInt ≤ p1.toInt ∧ p1.toInt ≤ 9999)) ∨ (r.toInt = 0 ∧ ¬ (0 ≤ p0.toInt ∧ p0.toInt ≤ p1.toInt ∧ p1.toInt ≤ 9999)))) (cB D [(cI, .int)] A (fun u : Unit => [])) A) (by decide) rfl (Nat.le_of_ble_eq_true rfl) ?_
  intro p e s m below meth c A ls hx hb hr hlocks hts hown hml hK hP hD hA hl
  have hS : va_S A s.heap s.heap [] := va_S.rf
  have hl : lv_has ls 2 [(0, .int p0), (1, .int p1)] := hl
  have hP : va_P D vwCl [] s.heap := hP
  refine c_iconst hx hb dX1_isSpanInside_0 (by decide) (fun v0 i0 => ?_)
  refine lv_iload_n hx hb dX1_isSpanInside_1 rfl (lv_at hl 0 rfl) ?_
  refine c_icmp_gt (tgt := 21) hx hb dX1_isSpanInside_2 (by decide) (fun c2 => ?_) (fun c2 => ?_)
  · skip
    refine c_iconst hx hb dX1_isSpanInside_21 (by decide) (fun v21 i21 => ?_)
    exact c_rz () hx hb hr hlocks hK hP hD hS dX1_isSpanInside_22 (by omega) (by (try dsimp only); omega)
  · skip
    refine lv_iload_n hx hb dX1_isSpanInside_5 rfl (lv_at hl 0 rfl) ?_
    refine lv_iload_n hx hb dX1_isSpanInside_6 rfl (lv_at hl 1 rfl) ?_
    refine c_icmp_gt (tgt := 21) hx hb dX1_isSpanInside_7 (by decide) (fun c7 => ?_) (fun c7 => ?_)
    · skip
      refine c_iconst hx hb dX1_isSpanInside_21 (by decide) (fun v21_2 i21_2 => ?_)
      exact c_rz () hx hb hr hlocks hK hP hD hS dX1_isSpanInside_22 (by omega) (by (try dsimp only); omega)
    · skip
      refine lv_iload_n hx hb dX1_isSpanInside_10 rfl (lv_at hl 1 rfl) ?_
      refine c_sipush hx hb dX1_isSpanInside_11 (by decide) (fun v11 i11 => ?_)
      refine c_icmp_gt (tgt := 21) hx hb dX1_isSpanInside_14 (by decide) (fun c14 => ?_) (fun c14 => ?_)
      · skip
        refine c_iconst hx hb dX1_isSpanInside_21 (by decide) (fun v21_3 i21_3 => ?_)
        exact c_rz () hx hb hr hlocks hK hP hD hS dX1_isSpanInside_22 (by omega) (by (try dsimp only); omega)
      · skip
        refine c_iconst hx hb dX1_isSpanInside_17 (by decide) (fun v17 i17 => ?_)
        refine lv_goto (tgt := 22) hx hb dX1_isSpanInside_18 (by decide) ?_
        exact c_rz () hx hb hr hlocks hK hP hD hS dX1_isSpanInside_22 (by omega) (by (try dsimp only); omega)
set_option maxHeartbeats 4000000 in
set_option maxRecDepth 100000 in
theorem kX1_place (l : Launch) (D : va_G) (cI : ClassId) (p0 : Int32) (p1 : Int32) (d : Nat) (t : Nat) (h0 : p0.toInt = (d : Int)) (h1 : p1.toInt = (t : Int)) (h2 : d ≤ 6 ∧ t ≤ 60) : MI l yX1_place wsX1_place ({ frames := 0, cells := 0, slots := 0, locals := 0 } : Room) D [(cI, .int)] [.int p0, .int p1] [] (fun u : Unit => []) (fun (r : Int32) (_ : Unit) => r.toInt = ((60 * d + t : Nat) : Int)) := by
  refine c_ent (cc := cX1_place) (maxL := 2) (ret := (some .int)) (Qc := fun A => va_Qi (fun (r : Int32) (_ : Unit) => r.toInt = ((60 * d + t : Nat) : Int)) (cB D [(cI, .int)] A (fun u : Unit => [])) A) (by decide) rfl (Nat.le_of_ble_eq_true rfl) ?_
  intro p e s m below meth c A ls hx hb hr hlocks hts hown hml hK hP hD hA hl
  have hS : va_S A s.heap s.heap [] := va_S.rf
  have hl : lv_has ls 2 [(0, .int p0), (1, .int p1)] := hl
  have hP : va_P D vwCl [] s.heap := hP
  refine lv_iload_n hx hb dX1_place_0 rfl (lv_at hl 0 rfl) ?_
  refine c_bipush hx hb dX1_place_1 (by decide) (fun v1 i1 => ?_)
  refine c_imul (a := p0.toInt) (b := 60) hx hb dX1_place_3 rfl (by omega) (by omega) (fun v3 i3 => ?_)
  refine lv_iload_n hx hb dX1_place_4 rfl (lv_at hl 1 rfl) ?_
  refine c_iadd hx hb dX1_place_5 (by omega) (fun v5 i5 => ?_)
  exact c_ri () hx hb hr hlocks hK hP hD hS dX1_place_6 (by (try dsimp only); omega)
set_option maxHeartbeats 4000000 in
set_option maxRecDepth 100000 in
theorem kX1_isDoor (l : Launch) (D : va_G) (cI : ClassId) (ad : Nat → Nat) (f : Nat → Nat → Int32) (lo : Nat → Int32) (hi : Nat → Int32) (T : Int32) (Dv : Int32) (C : Int32) (Tn : Nat) (Dn : Nat) (Cn : Nat) (p1 : Int32) (hT : T.toInt = (Tn : Int)) (hDv : Dv.toInt = (Dn : Int)) (hC : C.toInt = (Cn : Int)) (hI : Inv f Tn Dn Cn) : MI l yX1_isDoor wsX1_isDoor ({ frames := 1, cells := 0, slots := 0, locals := 22 } : Room) D [(cI, .int)] [.ref (ad 0), .int p1] (WX cI ad f lo hi T Dv C) (fun u : Unit => (WX cI ad f lo hi T Dv C)) (fun (r : Int32) (_ : Unit) => ((r.toInt = 1 ∧ (0 ≤ p1.toInt ∧ p1.toInt < (Dn : Int))) ∨ (r.toInt = 0 ∧ ¬ (0 ≤ p1.toInt ∧ p1.toInt < (Dn : Int))))) := by
  refine c_ent (cc := cX1_isDoor) (maxL := 2) (ret := (some .boolean)) (Qc := fun A => va_Qi (fun (r : Int32) (_ : Unit) => ((r.toInt = 1 ∧ (0 ≤ p1.toInt ∧ p1.toInt < (Dn : Int))) ∨ (r.toInt = 0 ∧ ¬ (0 ≤ p1.toInt ∧ p1.toInt < (Dn : Int))))) (cB D [(cI, .int)] A (fun u : Unit => (WX cI ad f lo hi T Dv C))) A) (by decide) rfl (Nat.le_of_ble_eq_true rfl) ?_
  intro p e s m below meth c A ls hx hb hr hlocks hts hown hml hK hP hD hA hl
  have hS : va_S A s.heap s.heap [] := va_S.rf
  have hl : lv_has ls 2 [(0, .ref (ad 0)), (1, .int p1)] := hl
  have hP : va_P D vwCl (WX cI ad f lo hi T Dv C) s.heap := hP
  have fl61 := hts (.fieldLink RX1 61 "DoorBench" "doors" "I") (by decide +kernel)
  have inX1 : ∀ w ∈ wsX10, w ∈ wsX1_isDoor := by decide +kernel
  obtain ⟨hI0, hId, hIr, hIs, hIc⟩ := id hI
  refine lv_iload_n hx hb dX1_isDoor_0 rfl (lv_at hl 1 rfl) ?_
  refine c_iconst hx hb dX1_isDoor_1 (by decide) (fun v1 i1 => ?_)
  refine lv_aload_n hx hb dX1_isDoor_2 rfl (lv_at hl 0 rfl) ?_
  refine va_get (D := D) (ci := 1) (v := .int Dv) (C := RX1) (T := TX1) (N := 16) hx hb hts inX1 hown hK hP 0 rfl rfl 14 (by decide) fl61 (fun _ h9 => h9) rfl dX1_isDoor_3 ?_
  refine c_iconst hx hb dX1_isDoor_6 (by decide) (fun v6 i6 => ?_)
  refine c_isub hx hb dX1_isDoor_7 (by omega) (fun v7 i7 => ?_)
  refine c_cpi (As := [.int p1, .int v1, .int v7]) (kX1_within l D cI p1 v1 v7) ⟨hx, hb, hml, hown, hts⟩ (va_cwS 3 hts gX1_isDoor_X1_within rfl rfl rfl (by decide +kernel) ⟨Nat.le_of_ble_eq_true rfl, Nat.le_of_ble_eq_true rfl⟩) hK hP hS hA rfl hl.1 rfl (Nat.le_of_ble_eq_true rfl) dX1_isDoor_8 ⟨Nat.zero_le _, Nat.zero_le _⟩ (fun r8 H locs q8 hP hS => ?_)
  try dsimp only at q8
  exact c_rz () hx hb hr hlocks hK hP hD hS dX1_isDoor_11 (by omega) (by (try dsimp only); omega)
set_option maxHeartbeats 4000000 in
set_option maxRecDepth 100000 in
theorem kX1_isTick (l : Launch) (D : va_G) (cI : ClassId) (ad : Nat → Nat) (f : Nat → Nat → Int32) (lo : Nat → Int32) (hi : Nat → Int32) (T : Int32) (Dv : Int32) (C : Int32) (Tn : Nat) (Dn : Nat) (Cn : Nat) (p1 : Int32) (hT : T.toInt = (Tn : Int)) (hDv : Dv.toInt = (Dn : Int)) (hC : C.toInt = (Cn : Int)) (hI : Inv f Tn Dn Cn) : MI l yX1_isTick wsX1_isTick ({ frames := 1, cells := 0, slots := 0, locals := 22 } : Room) D [(cI, .int)] [.ref (ad 0), .int p1] (WX cI ad f lo hi T Dv C) (fun u : Unit => (WX cI ad f lo hi T Dv C)) (fun (r : Int32) (_ : Unit) => ((r.toInt = 1 ∧ (0 ≤ p1.toInt ∧ p1.toInt < (Tn : Int))) ∨ (r.toInt = 0 ∧ ¬ (0 ≤ p1.toInt ∧ p1.toInt < (Tn : Int))))) := by
  refine c_ent (cc := cX1_isTick) (maxL := 2) (ret := (some .boolean)) (Qc := fun A => va_Qi (fun (r : Int32) (_ : Unit) => ((r.toInt = 1 ∧ (0 ≤ p1.toInt ∧ p1.toInt < (Tn : Int))) ∨ (r.toInt = 0 ∧ ¬ (0 ≤ p1.toInt ∧ p1.toInt < (Tn : Int))))) (cB D [(cI, .int)] A (fun u : Unit => (WX cI ad f lo hi T Dv C))) A) (by decide) rfl (Nat.le_of_ble_eq_true rfl) ?_
  intro p e s m below meth c A ls hx hb hr hlocks hts hown hml hK hP hD hA hl
  have hS : va_S A s.heap s.heap [] := va_S.rf
  have hl : lv_has ls 2 [(0, .ref (ad 0)), (1, .int p1)] := hl
  have hP : va_P D vwCl (WX cI ad f lo hi T Dv C) s.heap := hP
  have fl141 := hts (.fieldLink RX1 141 "DoorBench" "ticks" "I") (by decide +kernel)
  have inX1 : ∀ w ∈ wsX10, w ∈ wsX1_isTick := by decide +kernel
  obtain ⟨hI0, hId, hIr, hIs, hIc⟩ := id hI
  refine lv_iload_n hx hb dX1_isTick_0 rfl (lv_at hl 1 rfl) ?_
  refine c_iconst hx hb dX1_isTick_1 (by decide) (fun v1 i1 => ?_)
  refine lv_aload_n hx hb dX1_isTick_2 rfl (lv_at hl 0 rfl) ?_
  refine va_get (D := D) (ci := 1) (v := .int T) (C := RX1) (T := TX1) (N := 16) hx hb hts inX1 hown hK hP 0 rfl rfl 13 (by decide) fl141 (fun _ h9 => h9) rfl dX1_isTick_3 ?_
  refine c_iconst hx hb dX1_isTick_6 (by decide) (fun v6 i6 => ?_)
  refine c_isub hx hb dX1_isTick_7 (by omega) (fun v7 i7 => ?_)
  refine c_cpi (As := [.int p1, .int v1, .int v7]) (kX1_within l D cI p1 v1 v7) ⟨hx, hb, hml, hown, hts⟩ (va_cwS 3 hts gX1_isTick_X1_within rfl rfl rfl (by decide +kernel) ⟨Nat.le_of_ble_eq_true rfl, Nat.le_of_ble_eq_true rfl⟩) hK hP hS hA rfl hl.1 rfl (Nat.le_of_ble_eq_true rfl) dX1_isTick_8 ⟨Nat.zero_le _, Nat.zero_le _⟩ (fun r8 H locs q8 hP hS => ?_)
  try dsimp only at q8
  exact c_rz () hx hb hr hlocks hK hP hD hS dX1_isTick_11 (by omega) (by (try dsimp only); omega)
set_option maxHeartbeats 4000000 in
set_option maxRecDepth 100000 in
theorem kX1_isTime (l : Launch) (D : va_G) (cI : ClassId) (ad : Nat → Nat) (f : Nat → Nat → Int32) (lo : Nat → Int32) (hi : Nat → Int32) (T : Int32) (Dv : Int32) (C : Int32) (Tn : Nat) (Dn : Nat) (Cn : Nat) (p1 : Int32) (hT : T.toInt = (Tn : Int)) (hDv : Dv.toInt = (Dn : Int)) (hC : C.toInt = (Cn : Int)) (hI : Inv f Tn Dn Cn) : MI l yX1_isTime wsX1_isTime ({ frames := 1, cells := 0, slots := 0, locals := 22 } : Room) D [(cI, .int)] [.ref (ad 0), .int p1] (WX cI ad f lo hi T Dv C) (fun u : Unit => (WX cI ad f lo hi T Dv C)) (fun (r : Int32) (_ : Unit) => ((r.toInt = 1 ∧ (0 ≤ p1.toInt ∧ p1.toInt ≤ (Tn : Int))) ∨ (r.toInt = 0 ∧ ¬ (0 ≤ p1.toInt ∧ p1.toInt ≤ (Tn : Int))))) := by
  refine c_ent (cc := cX1_isTime) (maxL := 2) (ret := (some .boolean)) (Qc := fun A => va_Qi (fun (r : Int32) (_ : Unit) => ((r.toInt = 1 ∧ (0 ≤ p1.toInt ∧ p1.toInt ≤ (Tn : Int))) ∨ (r.toInt = 0 ∧ ¬ (0 ≤ p1.toInt ∧ p1.toInt ≤ (Tn : Int))))) (cB D [(cI, .int)] A (fun u : Unit => (WX cI ad f lo hi T Dv C))) A) (by decide) rfl (Nat.le_of_ble_eq_true rfl) ?_
  intro p e s m below meth c A ls hx hb hr hlocks hts hown hml hK hP hD hA hl
  have hS : va_S A s.heap s.heap [] := va_S.rf
  have hl : lv_has ls 2 [(0, .ref (ad 0)), (1, .int p1)] := hl
  have hP : va_P D vwCl (WX cI ad f lo hi T Dv C) s.heap := hP
  have fl141 := hts (.fieldLink RX1 141 "DoorBench" "ticks" "I") (by decide +kernel)
  have inX1 : ∀ w ∈ wsX10, w ∈ wsX1_isTime := by decide +kernel
  obtain ⟨hI0, hId, hIr, hIs, hIc⟩ := id hI
  refine lv_iload_n hx hb dX1_isTime_0 rfl (lv_at hl 1 rfl) ?_
  refine c_iconst hx hb dX1_isTime_1 (by decide) (fun v1 i1 => ?_)
  refine lv_aload_n hx hb dX1_isTime_2 rfl (lv_at hl 0 rfl) ?_
  refine va_get (D := D) (ci := 1) (v := .int T) (C := RX1) (T := TX1) (N := 16) hx hb hts inX1 hown hK hP 0 rfl rfl 13 (by decide) fl141 (fun _ h9 => h9) rfl dX1_isTime_3 ?_
  refine c_cpi (As := [.int p1, .int v1, .int T]) (kX1_within l D cI p1 v1 T) ⟨hx, hb, hml, hown, hts⟩ (va_cwS 3 hts gX1_isTime_X1_within rfl rfl rfl (by decide +kernel) ⟨Nat.le_of_ble_eq_true rfl, Nat.le_of_ble_eq_true rfl⟩) hK hP hS hA rfl hl.1 rfl (Nat.le_of_ble_eq_true rfl) dX1_isTime_6 ⟨Nat.zero_le _, Nat.zero_le _⟩ (fun r6 H locs q6 hP hS => ?_)
  try dsimp only at q6
  exact c_rz () hx hb hr hlocks hK hP hD hS dX1_isTime_9 (by omega) (by (try dsimp only); omega)
set_option maxHeartbeats 4000000 in
set_option maxRecDepth 100000 in
theorem kX1_leastPassed (l : Launch) (D : va_G) (cI : ClassId) (ad : Nat → Nat) (f : Nat → Nat → Int32) (lo : Nat → Int32) (hi : Nat → Int32) (T : Int32) (Dv : Int32) (C : Int32) (Tn : Nat) (Dn : Nat) (Cn : Nat) (p1 : Int32) (p2 : Int32) (p3 : Int32) (d : Nat) (hT : T.toInt = (Tn : Int)) (hDv : Dv.toInt = (Dn : Int)) (hC : C.toInt = (Cn : Int)) (hI : Inv f Tn Dn Cn) (ht1 : -1 ≤ p1.toInt ∧ p1.toInt ≤ 20) (hd : p2.toInt = (d : Int)) (hdn : d < Dn) (hm : 0 ≤ p3.toInt ∧ p3.toInt ≤ 5) : MI l yX1_leastPassed wsX1_leastPassed ({ frames := 1, cells := 0, slots := 0, locals := 21 } : Room) D [(cI, .int)] [.ref (ad 0), .int p1, .int p2, .int p3] (WX cI ad f lo hi T Dv C) (fun u : Unit => (WX cI ad f lo hi T Dv C)) (fun (r : Int32) (_ : Unit) => r.toInt = lsP (f 2 d).toInt p3.toInt p1.toInt) := by
  refine c_ent (cc := cX1_leastPassed) (maxL := 4) (ret := (some .int)) (Qc := fun A => va_Qi (fun (r : Int32) (_ : Unit) => r.toInt = lsP (f 2 d).toInt p3.toInt p1.toInt) (cB D [(cI, .int)] A (fun u : Unit => (WX cI ad f lo hi T Dv C))) A) (by decide) rfl (Nat.le_of_ble_eq_true rfl) ?_
  intro p e s m below meth c A ls hx hb hr hlocks hts hown hml hK hP hD hA hl
  have hS : va_S A s.heap s.heap [] := va_S.rf
  have hl : lv_has ls 4 [(0, .ref (ad 0)), (1, .int p1), (2, .int p2), (3, .int p3)] := hl
  have hP : va_P D vwCl (WX cI ad f lo hi T Dv C) s.heap := hP
  have fl16 := hts (.fieldLink RX1 16 "DoorBench" "doubles" "[I") (by decide +kernel)
  have inX1 : ∀ w ∈ wsX10, w ∈ wsX1_leastPassed := by decide +kernel
  have ml154 := hts (.methodLink RX1 154 Lib.Math.max.name) (by decide +kernel)
  have ms154 := hts (.static Lib.Math.max.name) (by decide +kernel)
  have mi154 := hts (.initialized "java/lang/Math") (by decide +kernel)
  have mc154 := hts (.code Lib.Math.max.name Lib.Math.max.code 2 (some .int)) (by decide +kernel)
  obtain ⟨hI0, hId, hIr, hIs, hIc⟩ := id hI
  have q1 := hId d hdn
  refine lv_iload_n hx hb dX1_leastPassed_0 rfl (lv_at hl 1 rfl) ?_
  refine c_iconst hx hb dX1_leastPassed_1 (by decide) (fun v1 i1 => ?_)
  refine c_icmp_ne (tgt := 9) hx hb dX1_leastPassed_2 (by decide) (fun c2 => ?_) (fun c2 => ?_)
  · skip
    refine c_iconst hx hb dX1_leastPassed_9 (by decide) (fun v9 i9 => ?_)
    refine lv_iload_n hx hb dX1_leastPassed_10 rfl (lv_at hl 1 rfl) ?_
    refine lv_aload_n hx hb dX1_leastPassed_11 rfl (lv_at hl 0 rfl) ?_
    refine va_get (D := D) (ci := 1) (v := .ref (ad 3)) (C := RX1) (T := TX1) (N := 16) hx hb hts inX1 hown hK hP 0 rfl rfl 2 (by decide) fl16 (fun _ h9 => h9) rfl dX1_leastPassed_12 ?_
    refine lv_iload_n hx hb dX1_leastPassed_15 rfl (lv_at hl 2 rfl) ?_
    refine c_iald hx hb hK hP 3 0 rfl rfl (d) (by omega) (by omega) dX1_leastPassed_16 (fun v16 e16 => ?_)
    have i16 : v16.toInt = ((f 2) (d)).toInt := by rw [e16]
    refine c_isub hx hb dX1_leastPassed_17 (by omega) (fun v17 i17 => ?_)
    refine lv_iload_n hx hb dX1_leastPassed_18 rfl (lv_at hl 3 rfl) ?_
    refine c_isub hx hb dX1_leastPassed_19 (by omega) (fun v19 i19 => ?_)
    refine c_mmax hx hb (hml.trans hl.1.symm) hown ml154 ms154 mi154 mc154 (Nat.le_of_ble_eq_true rfl) (Nat.le_of_ble_eq_true rfl) (Nat.zero_le _) (Nat.zero_le _) dX1_leastPassed_20 (fun v20 i20 => ?_)
    exact c_ri () hx hb hr hlocks hK hP hD hS dX1_leastPassed_23 (by (try dsimp only); unfold lsP; split <;> omega)
  · skip
    refine c_iconst hx hb dX1_leastPassed_5 (by decide) (fun v5 i5 => ?_)
    refine lv_goto (tgt := 23) hx hb dX1_leastPassed_6 (by decide) ?_
    exact c_ri () hx hb hr hlocks hK hP hD hS dX1_leastPassed_23 (by (try dsimp only); unfold lsP; split <;> omega)
set_option maxHeartbeats 4000000 in
set_option maxRecDepth 100000 in
theorem kX1_mostPassed (l : Launch) (D : va_G) (cI : ClassId) (ad : Nat → Nat) (f : Nat → Nat → Int32) (lo : Nat → Int32) (hi : Nat → Int32) (T : Int32) (Dv : Int32) (C : Int32) (Tn : Nat) (Dn : Nat) (Cn : Nat) (p1 : Int32) (p2 : Int32) (p3 : Int32) (d : Nat) (hT : T.toInt = (Tn : Int)) (hDv : Dv.toInt = (Dn : Int)) (hC : C.toInt = (Cn : Int)) (hI : Inv f Tn Dn Cn) (ht1 : -1 ≤ p1.toInt ∧ p1.toInt ≤ 20) (hd : p2.toInt = (d : Int)) (hdn : d < Dn) (hm : 0 ≤ p3.toInt ∧ p3.toInt ≤ 5) : MI l yX1_mostPassed wsX1_mostPassed ({ frames := 0, cells := 0, slots := 0, locals := 0 } : Room) D [(cI, .int)] [.ref (ad 0), .int p1, .int p2, .int p3] (WX cI ad f lo hi T Dv C) (fun u : Unit => (WX cI ad f lo hi T Dv C)) (fun (r : Int32) (_ : Unit) => r.toInt = msP (f 3 d).toInt (f 1 d).toInt p3.toInt p1.toInt) := by
  refine c_ent (cc := cX1_mostPassed) (maxL := 4) (ret := (some .int)) (Qc := fun A => va_Qi (fun (r : Int32) (_ : Unit) => r.toInt = msP (f 3 d).toInt (f 1 d).toInt p3.toInt p1.toInt) (cB D [(cI, .int)] A (fun u : Unit => (WX cI ad f lo hi T Dv C))) A) (by decide) rfl (Nat.le_of_ble_eq_true rfl) ?_
  intro p e s m below meth c A ls hx hb hr hlocks hts hown hml hK hP hD hA hl
  have hS : va_S A s.heap s.heap [] := va_S.rf
  have hl : lv_has ls 4 [(0, .ref (ad 0)), (1, .int p1), (2, .int p2), (3, .int p3)] := hl
  have hP : va_P D vwCl (WX cI ad f lo hi T Dv C) s.heap := hP
  have fl13 := hts (.fieldLink RX1 13 "DoorBench" "misses" "[I") (by decide +kernel)
  have fl19 := hts (.fieldLink RX1 19 "DoorBench" "caps" "[I") (by decide +kernel)
  have inX1 : ∀ w ∈ wsX10, w ∈ wsX1_mostPassed := by decide +kernel
  obtain ⟨hI0, hId, hIr, hIs, hIc⟩ := id hI
  have q1 := hId d hdn
  refine lv_iload_n hx hb dX1_mostPassed_0 rfl (lv_at hl 1 rfl) ?_
  refine c_iconst hx hb dX1_mostPassed_1 (by decide) (fun v1 i1 => ?_)
  refine c_icmp_ne (tgt := 14) hx hb dX1_mostPassed_2 (by decide) (fun c2 => ?_) (fun c2 => ?_)
  · skip
    refine lv_iload_n hx hb dX1_mostPassed_14 rfl (lv_at hl 1 rfl) ?_
    refine lv_aload_n hx hb dX1_mostPassed_15 rfl (lv_at hl 0 rfl) ?_
    refine va_get (D := D) (ci := 1) (v := .ref (ad 2)) (C := RX1) (T := TX1) (N := 16) hx hb hts inX1 hown hK hP 0 rfl rfl 1 (by decide) fl13 (fun _ h9 => h9) rfl dX1_mostPassed_16 ?_
    refine lv_iload_n hx hb dX1_mostPassed_19 rfl (lv_at hl 2 rfl) ?_
    refine c_iald hx hb hK hP 2 0 rfl rfl (d) (by omega) (by omega) dX1_mostPassed_20 (fun v20 e20 => ?_)
    have i20 : v20.toInt = ((f 1) (d)).toInt := by rw [e20]
    refine c_iadd hx hb dX1_mostPassed_21 (by omega) (fun v21 i21 => ?_)
    refine lv_iload_n hx hb dX1_mostPassed_22 rfl (lv_at hl 3 rfl) ?_
    refine c_iadd hx hb dX1_mostPassed_23 (by omega) (fun v23 i23 => ?_)
    exact c_ri () hx hb hr hlocks hK hP hD hS dX1_mostPassed_24 (by (try dsimp only); unfold msP; split <;> omega)
  · skip
    refine lv_aload_n hx hb dX1_mostPassed_5 rfl (lv_at hl 0 rfl) ?_
    refine va_get (D := D) (ci := 1) (v := .ref (ad 4)) (C := RX1) (T := TX1) (N := 16) hx hb hts inX1 hown hK hP 0 rfl rfl 3 (by decide) fl19 (fun _ h9 => h9) rfl dX1_mostPassed_6 ?_
    refine lv_iload_n hx hb dX1_mostPassed_9 rfl (lv_at hl 2 rfl) ?_
    refine c_iald hx hb hK hP 4 0 rfl rfl (d) (by omega) (by omega) dX1_mostPassed_10 (fun v10 e10 => ?_)
    have i10 : v10.toInt = ((f 3) (d)).toInt := by rw [e10]
    refine lv_goto (tgt := 24) hx hb dX1_mostPassed_11 (by decide) ?_
    exact c_ri () hx hb hr hlocks hK hP hD hS dX1_mostPassed_24 (by (try dsimp only); unfold msP; split <;> omega)
set_option maxHeartbeats 4000000 in
set_option maxRecDepth 100000 in
theorem kX1_leastNet (l : Launch) (D : va_G) (cI : ClassId) (ad : Nat → Nat) (f : Nat → Nat → Int32) (lo : Nat → Int32) (hi : Nat → Int32) (T : Int32) (Dv : Int32) (C : Int32) (Tn : Nat) (Dn : Nat) (Cn : Nat) (p1 : Int32) (p2 : Int32) (p3 : Int32) (d : Nat) (t : Nat) (hT : T.toInt = (Tn : Int)) (hDv : Dv.toInt = (Dn : Int)) (hC : C.toInt = (Cn : Int)) (hI : Inv f Tn Dn Cn) (hd : p1.toInt = (d : Int)) (hdn : d < Dn) (ht : p2.toInt = (t : Int)) (htn : t < Tn) (hm : 0 ≤ p3.toInt ∧ p3.toInt ≤ 5) : MI l yX1_leastNet wsX1_leastNet ({ frames := 2, cells := 0, slots := 0, locals := 44 } : Room) D [(cI, .int)] [.ref (ad 0), .int p1, .int p2, .int p3] (WX cI ad f lo hi T Dv C) (fun u : Unit => (WX cI ad f lo hi T Dv C)) (fun (r : Int32) (_ : Unit) => r.toInt = nLo f d t p3.toInt) := by
  refine c_ent (cc := cX1_leastNet) (maxL := 5) (ret := (some .int)) (Qc := fun A => va_Qi (fun (r : Int32) (_ : Unit) => r.toInt = nLo f d t p3.toInt) (cB D [(cI, .int)] A (fun u : Unit => (WX cI ad f lo hi T Dv C))) A) (by decide) rfl (Nat.le_of_ble_eq_true rfl) ?_
  intro p e s m below meth c A ls hx hb hr hlocks hts hown hml hK hP hD hA hl
  have hS : va_S A s.heap s.heap [] := va_S.rf
  have hl : lv_has ls 5 [(0, .ref (ad 0)), (1, .int p1), (2, .int p2), (3, .int p3)] := hl
  have hP : va_P D vwCl (WX cI ad f lo hi T Dv C) s.heap := hP
  have fl22 := hts (.fieldLink RX1 22 "DoorBench" "toldIn" "[I") (by decide +kernel)
  have fl25 := hts (.fieldLink RX1 25 "DoorBench" "toldOut" "[I") (by decide +kernel)
  have inX1 : ∀ w ∈ wsX10, w ∈ wsX1_leastNet := by decide +kernel
  obtain ⟨hI0, hId, hIr, hIs, hIc⟩ := id hI
  have q1 := hId d hdn
  have q2 := hIr (60 * d + t) (by omega)
  have q3 := n_bd (mr := p3.toInt) hI hdn htn hm.1 hm.2
  unfold nLo nHi lsP msP at q3
  refine lv_iload_n hx hb dX1_leastNet_0 rfl (lv_at hl 1 rfl) ?_
  refine lv_iload_n hx hb dX1_leastNet_1 rfl (lv_at hl 2 rfl) ?_
  refine c_cpi (As := [.int p1, .int p2]) (kX1_place l D cI p1 p2 (d) (t) (by omega) (by omega) (by omega)) ⟨hx, hb, hml, hown, hts⟩ (va_cwS 2 hts gX1_leastNet_X1_place rfl rfl rfl (by decide +kernel) ⟨Nat.le_of_ble_eq_true rfl, Nat.le_of_ble_eq_true rfl⟩) hK hP hS hA rfl hl.1 rfl (Nat.le_of_ble_eq_true rfl) dX1_leastNet_2 ⟨Nat.zero_le _, Nat.zero_le _⟩ (fun r2 H locs q2 hP hS => ?_)
  try dsimp only at q2
  skip
  refine lv_istore (lv' := [(4, .int r2), (0, .ref (ad 0)), (1, .int p1), (2, .int p2), (3, .int p3)]) hx hb dX1_leastNet_5 hl (by decide) rfl (fun ls hl => ?_)
  refine lv_aload_n hx hb dX1_leastNet_7 rfl (lv_at hl 1 rfl) ?_
  refine lv_aload_n hx hb dX1_leastNet_8 rfl (lv_at hl 1 rfl) ?_
  refine va_get (D := D) (ci := 1) (v := .ref (ad 5)) (C := RX1) (T := TX1) (N := 16) hx hb hts inX1 hown hK hP 0 rfl rfl 4 (by decide) fl22 (fun _ h9 => h9) rfl dX1_leastNet_9 ?_
  refine lv_iload hx hb dX1_leastNet_12 (lv_at hl 0 rfl) ?_
  refine c_iald hx hb hK hP 5 0 rfl rfl (60 * d + t) (by omega) (by omega) dX1_leastNet_14 (fun v14 e14 => ?_)
  have i14 : v14.toInt = ((f 4) (60 * d + t)).toInt := by rw [e14]
  refine lv_iload_n hx hb dX1_leastNet_15 rfl (lv_at hl 2 rfl) ?_
  refine lv_iload_n hx hb dX1_leastNet_16 rfl (lv_at hl 4 rfl) ?_
  refine c_wvi (As := [.int v14, .int p1, .int p3]) (ci := 1) (q0 := 0) (kX1_leastPassed l D cI ad f lo hi T Dv C Tn Dn Cn v14 p1 p3 (d) hT hDv hC hI (by omega) (by omega) (by omega) (by omega)) ⟨hx, hb, hml, hown, hts⟩ (cwV 3 hts gX1_leastNet_X1_leastPassed rfl rfl rfl (by decide +kernel) ⟨Nat.le_of_ble_eq_true rfl, Nat.le_of_ble_eq_true rfl⟩) hK hP hD hS hA rfl rfl rfl rfl hl.1 rfl (Nat.le_of_ble_eq_true rfl) dX1_leastNet_17 ⟨Nat.zero_le _, Nat.zero_le _⟩ (fun r17 u17 H locs q17 hP hD hS => ?_)
  try dsimp only at q17
  have hP : va_P D vwCl (WX cI ad f lo hi T Dv C) H := hP
  have hD : va_D A (WX cI ad f lo hi T Dv C) := hD
  rw [i14] at q17
  have b17 : 0 ≤ r17.toInt ∧ r17.toInt ≤ 30 := by (rw [q17]; first | unfold lsP | unfold msP); split <;> omega
  refine lv_aload_n hx hb dX1_leastNet_20 rfl (lv_at hl 1 rfl) ?_
  refine lv_aload_n hx hb dX1_leastNet_21 rfl (lv_at hl 1 rfl) ?_
  refine va_get (D := D) (ci := 1) (v := .ref (ad 6)) (C := RX1) (T := TX1) (N := 16) hx hb hts inX1 hown hK hP 0 rfl rfl 5 (by decide) fl25 (fun _ h9 => h9) rfl dX1_leastNet_22 ?_
  refine lv_iload hx hb dX1_leastNet_25 (lv_at hl 0 rfl) ?_
  refine c_iald hx hb hK hP 6 0 rfl rfl (60 * d + t) (by omega) (by omega) dX1_leastNet_27 (fun v27 e27 => ?_)
  have i27 : v27.toInt = ((f 5) (60 * d + t)).toInt := by rw [e27]
  refine lv_iload_n hx hb dX1_leastNet_28 rfl (lv_at hl 2 rfl) ?_
  refine lv_iload_n hx hb dX1_leastNet_29 rfl (lv_at hl 4 rfl) ?_
  refine c_wvi (As := [.int v27, .int p1, .int p3]) (ci := 1) (q0 := 0) (kX1_mostPassed l D cI ad f lo hi T Dv C Tn Dn Cn v27 p1 p3 (d) hT hDv hC hI (by omega) (by omega) (by omega) (by omega)) ⟨hx, hb, hml, hown, hts⟩ (cwV 3 hts gX1_leastNet_X1_mostPassed rfl rfl rfl (by decide +kernel) ⟨Nat.le_of_ble_eq_true rfl, Nat.le_of_ble_eq_true rfl⟩) hK hP hD hS hA rfl rfl rfl rfl hl.1 rfl (Nat.le_of_ble_eq_true rfl) dX1_leastNet_30 ⟨Nat.zero_le _, Nat.zero_le _⟩ (fun r30 u30 H locs q30 hP hD hS => ?_)
  try dsimp only at q30
  have hP : va_P D vwCl (WX cI ad f lo hi T Dv C) H := hP
  have hD : va_D A (WX cI ad f lo hi T Dv C) := hD
  rw [i27] at q30
  have b30 : 0 ≤ r30.toInt ∧ r30.toInt ≤ 30 := by (rw [q30]; first | unfold lsP | unfold msP); split <;> omega
  refine c_isub hx hb dX1_leastNet_33 (by omega) (fun v33 i33 => ?_)
  exact c_ri () hx hb hr hlocks hK hP hD hS dX1_leastNet_34 (by (try dsimp only); unfold nLo; rw [← q17, ← q30]; omega)
set_option maxHeartbeats 4000000 in
set_option maxRecDepth 100000 in
theorem kX1_mostNet (l : Launch) (D : va_G) (cI : ClassId) (ad : Nat → Nat) (f : Nat → Nat → Int32) (lo : Nat → Int32) (hi : Nat → Int32) (T : Int32) (Dv : Int32) (C : Int32) (Tn : Nat) (Dn : Nat) (Cn : Nat) (p1 : Int32) (p2 : Int32) (p3 : Int32) (d : Nat) (t : Nat) (hT : T.toInt = (Tn : Int)) (hDv : Dv.toInt = (Dn : Int)) (hC : C.toInt = (Cn : Int)) (hI : Inv f Tn Dn Cn) (hd : p1.toInt = (d : Int)) (hdn : d < Dn) (ht : p2.toInt = (t : Int)) (htn : t < Tn) (hm : 0 ≤ p3.toInt ∧ p3.toInt ≤ 5) : MI l yX1_mostNet wsX1_mostNet ({ frames := 2, cells := 0, slots := 0, locals := 44 } : Room) D [(cI, .int)] [.ref (ad 0), .int p1, .int p2, .int p3] (WX cI ad f lo hi T Dv C) (fun u : Unit => (WX cI ad f lo hi T Dv C)) (fun (r : Int32) (_ : Unit) => r.toInt = nHi f d t p3.toInt) := by
  refine c_ent (cc := cX1_mostNet) (maxL := 5) (ret := (some .int)) (Qc := fun A => va_Qi (fun (r : Int32) (_ : Unit) => r.toInt = nHi f d t p3.toInt) (cB D [(cI, .int)] A (fun u : Unit => (WX cI ad f lo hi T Dv C))) A) (by decide) rfl (Nat.le_of_ble_eq_true rfl) ?_
  intro p e s m below meth c A ls hx hb hr hlocks hts hown hml hK hP hD hA hl
  have hS : va_S A s.heap s.heap [] := va_S.rf
  have hl : lv_has ls 5 [(0, .ref (ad 0)), (1, .int p1), (2, .int p2), (3, .int p3)] := hl
  have hP : va_P D vwCl (WX cI ad f lo hi T Dv C) s.heap := hP
  have fl22 := hts (.fieldLink RX1 22 "DoorBench" "toldIn" "[I") (by decide +kernel)
  have fl25 := hts (.fieldLink RX1 25 "DoorBench" "toldOut" "[I") (by decide +kernel)
  have inX1 : ∀ w ∈ wsX10, w ∈ wsX1_mostNet := by decide +kernel
  obtain ⟨hI0, hId, hIr, hIs, hIc⟩ := id hI
  have q1 := hId d hdn
  have q2 := hIr (60 * d + t) (by omega)
  have q3 := n_bd (mr := p3.toInt) hI hdn htn hm.1 hm.2
  unfold nLo nHi lsP msP at q3
  refine lv_iload_n hx hb dX1_mostNet_0 rfl (lv_at hl 1 rfl) ?_
  refine lv_iload_n hx hb dX1_mostNet_1 rfl (lv_at hl 2 rfl) ?_
  refine c_cpi (As := [.int p1, .int p2]) (kX1_place l D cI p1 p2 (d) (t) (by omega) (by omega) (by omega)) ⟨hx, hb, hml, hown, hts⟩ (va_cwS 2 hts gX1_mostNet_X1_place rfl rfl rfl (by decide +kernel) ⟨Nat.le_of_ble_eq_true rfl, Nat.le_of_ble_eq_true rfl⟩) hK hP hS hA rfl hl.1 rfl (Nat.le_of_ble_eq_true rfl) dX1_mostNet_2 ⟨Nat.zero_le _, Nat.zero_le _⟩ (fun r2 H locs q2 hP hS => ?_)
  try dsimp only at q2
  skip
  refine lv_istore (lv' := [(4, .int r2), (0, .ref (ad 0)), (1, .int p1), (2, .int p2), (3, .int p3)]) hx hb dX1_mostNet_5 hl (by decide) rfl (fun ls hl => ?_)
  refine lv_aload_n hx hb dX1_mostNet_7 rfl (lv_at hl 1 rfl) ?_
  refine lv_aload_n hx hb dX1_mostNet_8 rfl (lv_at hl 1 rfl) ?_
  refine va_get (D := D) (ci := 1) (v := .ref (ad 5)) (C := RX1) (T := TX1) (N := 16) hx hb hts inX1 hown hK hP 0 rfl rfl 4 (by decide) fl22 (fun _ h9 => h9) rfl dX1_mostNet_9 ?_
  refine lv_iload hx hb dX1_mostNet_12 (lv_at hl 0 rfl) ?_
  refine c_iald hx hb hK hP 5 0 rfl rfl (60 * d + t) (by omega) (by omega) dX1_mostNet_14 (fun v14 e14 => ?_)
  have i14 : v14.toInt = ((f 4) (60 * d + t)).toInt := by rw [e14]
  refine lv_iload_n hx hb dX1_mostNet_15 rfl (lv_at hl 2 rfl) ?_
  refine lv_iload_n hx hb dX1_mostNet_16 rfl (lv_at hl 4 rfl) ?_
  refine c_wvi (As := [.int v14, .int p1, .int p3]) (ci := 1) (q0 := 0) (kX1_mostPassed l D cI ad f lo hi T Dv C Tn Dn Cn v14 p1 p3 (d) hT hDv hC hI (by omega) (by omega) (by omega) (by omega)) ⟨hx, hb, hml, hown, hts⟩ (cwV 3 hts gX1_mostNet_X1_mostPassed rfl rfl rfl (by decide +kernel) ⟨Nat.le_of_ble_eq_true rfl, Nat.le_of_ble_eq_true rfl⟩) hK hP hD hS hA rfl rfl rfl rfl hl.1 rfl (Nat.le_of_ble_eq_true rfl) dX1_mostNet_17 ⟨Nat.zero_le _, Nat.zero_le _⟩ (fun r17 u17 H locs q17 hP hD hS => ?_)
  try dsimp only at q17
  have hP : va_P D vwCl (WX cI ad f lo hi T Dv C) H := hP
  have hD : va_D A (WX cI ad f lo hi T Dv C) := hD
  rw [i14] at q17
  have b17 : 0 ≤ r17.toInt ∧ r17.toInt ≤ 30 := by (rw [q17]; first | unfold lsP | unfold msP); split <;> omega
  refine lv_aload_n hx hb dX1_mostNet_20 rfl (lv_at hl 1 rfl) ?_
  refine lv_aload_n hx hb dX1_mostNet_21 rfl (lv_at hl 1 rfl) ?_
  refine va_get (D := D) (ci := 1) (v := .ref (ad 6)) (C := RX1) (T := TX1) (N := 16) hx hb hts inX1 hown hK hP 0 rfl rfl 5 (by decide) fl25 (fun _ h9 => h9) rfl dX1_mostNet_22 ?_
  refine lv_iload hx hb dX1_mostNet_25 (lv_at hl 0 rfl) ?_
  refine c_iald hx hb hK hP 6 0 rfl rfl (60 * d + t) (by omega) (by omega) dX1_mostNet_27 (fun v27 e27 => ?_)
  have i27 : v27.toInt = ((f 5) (60 * d + t)).toInt := by rw [e27]
  refine lv_iload_n hx hb dX1_mostNet_28 rfl (lv_at hl 2 rfl) ?_
  refine lv_iload_n hx hb dX1_mostNet_29 rfl (lv_at hl 4 rfl) ?_
  refine c_wvi (As := [.int v27, .int p1, .int p3]) (ci := 1) (q0 := 0) (kX1_leastPassed l D cI ad f lo hi T Dv C Tn Dn Cn v27 p1 p3 (d) hT hDv hC hI (by omega) (by omega) (by omega) (by omega)) ⟨hx, hb, hml, hown, hts⟩ (cwV 3 hts gX1_mostNet_X1_leastPassed rfl rfl rfl (by decide +kernel) ⟨Nat.le_of_ble_eq_true rfl, Nat.le_of_ble_eq_true rfl⟩) hK hP hD hS hA rfl rfl rfl rfl hl.1 rfl (Nat.le_of_ble_eq_true rfl) dX1_mostNet_30 ⟨Nat.zero_le _, Nat.zero_le _⟩ (fun r30 u30 H locs q30 hP hD hS => ?_)
  try dsimp only at q30
  have hP : va_P D vwCl (WX cI ad f lo hi T Dv C) H := hP
  have hD : va_D A (WX cI ad f lo hi T Dv C) := hD
  rw [i27] at q30
  have b30 : 0 ≤ r30.toInt ∧ r30.toInt ≤ 30 := by (rw [q30]; first | unfold lsP | unfold msP); split <;> omega
  refine c_isub hx hb dX1_mostNet_33 (by omega) (fun v33 i33 => ?_)
  exact c_ri () hx hb hr hlocks hK hP hD hS dX1_mostNet_34 (by (try dsimp only); unfold nHi; rw [← q17, ← q30]; omega)
end
section
set_option maxHeartbeats 4000000 in
set_option maxRecDepth 100000 in
theorem kX1_addDoor (l : Launch) (D : va_G) (cI : ClassId) (ad : Nat → Nat) (f : Nat → Nat → Int32) (lo : Nat → Int32) (hi : Nat → Int32) (T : Int32) (Dv : Int32) (C : Int32) (Tn : Nat) (Dn : Nat) (Cn : Nat) (p1 : Int32) (p2 : Int32) (p3 : Int32) (hT : T.toInt = (Tn : Int)) (hDv : Dv.toInt = (Dn : Int)) (hC : C.toInt = (Cn : Int)) (hI : Inv f Tn Dn Cn) (hk : 0 ≤ p1.toInt ∧ p1.toInt ≤ 2) (hl2 : -100000 ≤ p2.toInt ∧ p2.toInt ≤ 100000) (hl3 : -100000 ≤ p3.toInt ∧ p3.toInt ≤ 100000) (hb61 : bd (rwX lo hi 61) 1000000) : MV l yX1_addDoor wsX1_addDoor ({ frames := 2, cells := 0, slots := 0, locals := 46 } : Room) D [(cI, .int)] [.ref (ad 0), .int p1, .int p2, .int p3] (WX cI ad f lo hi T Dv C) (fun u : (Nat → Int32) × (Nat → Int32) => (WX cI ad f u.1 u.2 T Dv C)) (fun (u : (Nat → Int32) × (Nat → Int32)) => ad6 (rwX u.1 u.2 61) (rwX lo hi 61) p1.toInt p2.toInt p3.toInt ∧ ∀ j, j < 183 → u.1 j = lo j ∧ u.2 j = hi j) := by
  refine c_ent (cc := cX1_addDoor) (maxL := 4) (ret := none) (Qc := fun A => va_Qv (fun (u : (Nat → Int32) × (Nat → Int32)) => ad6 (rwX u.1 u.2 61) (rwX lo hi 61) p1.toInt p2.toInt p3.toInt ∧ ∀ j, j < 183 → u.1 j = lo j ∧ u.2 j = hi j) (cB D [(cI, .int)] A (fun u : (Nat → Int32) × (Nat → Int32) => (WX cI ad f u.1 u.2 T Dv C))) A) (by decide) rfl (Nat.le_of_ble_eq_true rfl) ?_
  intro p e s m below meth c A ls hx hb hr hlocks hts hown hml hK hP hD hA hl
  have hS : va_S A s.heap s.heap [] := va_S.rf
  have hl : lv_has ls 4 [(0, .ref (ad 0)), (1, .int p1), (2, .int p2), (3, .int p3)] := hl
  have hP : va_P D vwCl (WX cI ad f lo hi T Dv C) s.heap := hP
  have fl49 := hts (.fieldLink RX1 49 "DoorBench" "spans" "LDoorBench$Spans;") (by decide +kernel)
  have inX1 : ∀ w ∈ wsX10, w ∈ wsX1_addDoor := by decide +kernel
  obtain ⟨hI0, hId, hIr, hIs, hIc⟩ := id hI
  have z0 := bd_at hb61 (k := 0) (by omega)
  have z1 := bd_at hb61 (k := 1) (by omega)
  have z2 := bd_at hb61 (k := 2) (by omega)
  refine lv_iload_n hx hb dX1_addDoor_0 rfl (lv_at hl 1 rfl) ?_
  refine c_if_ne (tgt := 31) hx hb dX1_addDoor_1 (by decide) (fun c1 => ?_) (fun c1 => ?_)
  · skip
    refine lv_iload_n hx hb dX1_addDoor_31 rfl (lv_at hl 1 rfl) ?_
    refine c_iconst hx hb dX1_addDoor_32 (by decide) (fun v32 i32 => ?_)
    refine c_icmp_ne (tgt := 63) hx hb dX1_addDoor_33 (by decide) (fun c33 => ?_) (fun c33 => ?_)
    · skip
      refine lv_aload_n hx hb dX1_addDoor_63 rfl (lv_at hl 0 rfl) ?_
      refine va_get (D := D) (ci := 1) (v := .ref (ad 13)) (C := RX1) (T := TX1) (N := 16) hx hb hts inX1 hown hK hP 0 rfl rfl 12 (by decide) fl49 (fun _ h9 => h9) rfl dX1_addDoor_64 ?_
      refine c_bipush hx hb dX1_addDoor_67 (by decide) (fun v67 i67 => ?_)
      refine c_iconst hx hb dX1_addDoor_69 (by decide) (fun v69 i69 => ?_)
      refine lv_iload_n hx hb dX1_addDoor_70 rfl (lv_at hl 3 rfl) ?_
      refine c_ineg hx hb dX1_addDoor_71 (by omega) (fun v71 i71 => ?_)
      refine lv_iload_n hx hb dX1_addDoor_72 rfl (lv_at hl 2 rfl) ?_
      refine c_ineg hx hb dX1_addDoor_73 (by omega) (fun v73 i73 => ?_)
      refine c_cvv (As := [.int v67, .int v69, .int v71, .int v73]) (ci := 0) (q0 := 0) (wr := [((ad 0), .inr (1, [.ref (ad 1), .ref (ad 2), .ref (ad 3), .ref (ad 4), .ref (ad 5), .ref (ad 6), .ref (ad 7), .ref (ad 8), .ref (ad 9), .ref (ad 10), .ref (ad 11), .ref (ad 12), .ref (ad 13), .int T, .int Dv, .int C])), ((ad 1), .inl (cI, 6, .inl (f 0))), ((ad 2), .inl (cI, 6, .inl (f 1))), ((ad 3), .inl (cI, 6, .inl (f 2))), ((ad 4), .inl (cI, 6, .inl (f 3))), ((ad 5), .inl (cI, 360, .inl (f 4))), ((ad 6), .inl (cI, 360, .inl (f 5))), ((ad 7), .inl (cI, 2, .inl (f 6))), ((ad 8), .inl (cI, 2, .inl (f 7))), ((ad 9), .inl (cI, 20, .inl (f 8))), ((ad 10), .inl (cI, 20, .inl (f 9))), ((ad 11), .inl (cI, 20, .inl (f 10))), ((ad 12), .inl (cI, 20, .inl (f 11)))]) (wF := (fun u9 => (WX cI ad f (upd lo (3 * (61) + (0)) u9.1) (upd hi (3 * (61) + (0)) u9.2) T Dv C))) (kX0_widen l D cI ad lo hi v67 v69 v71 v73 (61) (0) (by omega) (by omega) (by omega) (by omega) (by omega) (by omega) (by omega) (by omega)) ⟨hx, hb, hml, hown, hts⟩ (cwV 4 hts gX1_addDoor_X0_widen rfl rfl rfl (by decide +kernel) ⟨Nat.le_of_ble_eq_true rfl, Nat.le_of_ble_eq_true rfl⟩) hK hP hD hS hA [13, 14, 15] [0, 1, 2, 3, 4, 5, 6, 7, 8, 9, 10, 11, 12] [0, 1, 2, 3, 4, 5, 6, 7, 8, 9, 10, 11, 12, 13, 14, 15] rfl (by decide) rfl (by decide) (by decide) (by decide) (fun _ => rfl) rfl rfl rfl rfl hl.1 rfl (Nat.le_of_ble_eq_true rfl) dX1_addDoor_74 ⟨Nat.zero_le _, Nat.zero_le _⟩ (fun u74 H locs q74 hP hD hS => ?_)
      try dsimp only at q74
      have hP : va_P D vwCl (WX cI ad f (upd lo (3 * (61) + (0)) u74.1) (upd hi (3 * (61) + (0)) u74.2) T Dv C) H := hP
      have hD : va_D A (WX cI ad f (upd lo (3 * (61) + (0)) u74.1) (upd hi (3 * (61) + (0)) u74.2) T Dv C) := hD
      refine lv_aload_n hx hb dX1_addDoor_77 rfl (lv_at hl 0 rfl) ?_
      refine va_get (D := D) (ci := 1) (v := .ref (ad 13)) (C := RX1) (T := TX1) (N := 16) hx hb hts inX1 hown hK hP 0 rfl rfl 12 (by decide) fl49 (fun _ h9 => h9) rfl dX1_addDoor_78 ?_
      refine c_bipush hx hb dX1_addDoor_81 (by decide) (fun v81 i81 => ?_)
      refine c_iconst hx hb dX1_addDoor_83 (by decide) (fun v83 i83 => ?_)
      refine lv_iload_n hx hb dX1_addDoor_84 rfl (lv_at hl 2 rfl) ?_
      refine lv_iload_n hx hb dX1_addDoor_85 rfl (lv_at hl 3 rfl) ?_
      refine c_cvv (As := [.int v81, .int v83, .int p2, .int p3]) (ci := 0) (q0 := 0) (wr := [((ad 0), .inr (1, [.ref (ad 1), .ref (ad 2), .ref (ad 3), .ref (ad 4), .ref (ad 5), .ref (ad 6), .ref (ad 7), .ref (ad 8), .ref (ad 9), .ref (ad 10), .ref (ad 11), .ref (ad 12), .ref (ad 13), .int T, .int Dv, .int C])), ((ad 1), .inl (cI, 6, .inl (f 0))), ((ad 2), .inl (cI, 6, .inl (f 1))), ((ad 3), .inl (cI, 6, .inl (f 2))), ((ad 4), .inl (cI, 6, .inl (f 3))), ((ad 5), .inl (cI, 360, .inl (f 4))), ((ad 6), .inl (cI, 360, .inl (f 5))), ((ad 7), .inl (cI, 2, .inl (f 6))), ((ad 8), .inl (cI, 2, .inl (f 7))), ((ad 9), .inl (cI, 20, .inl (f 8))), ((ad 10), .inl (cI, 20, .inl (f 9))), ((ad 11), .inl (cI, 20, .inl (f 10))), ((ad 12), .inl (cI, 20, .inl (f 11)))]) (wF := (fun u9 => (WX cI ad f (upd (upd lo (3 * (61) + (0)) u74.1) (3 * (61) + (1)) u9.1) (upd (upd hi (3 * (61) + (0)) u74.2) (3 * (61) + (1)) u9.2) T Dv C))) (kX0_widen l D cI ad (upd lo (3 * (61) + (0)) u74.1) (upd hi (3 * (61) + (0)) u74.2) v81 v83 p2 p3 (61) (1) (by omega) (by omega) (by omega) (by omega) (by rw [pk_un (by omega)]; omega) (by rw [pk_un (by omega)]; omega) (by omega) (by omega)) ⟨hx, hb, hml, hown, hts⟩ (cwV 4 hts gX1_addDoor_X0_widen rfl rfl rfl (by decide +kernel) ⟨Nat.le_of_ble_eq_true rfl, Nat.le_of_ble_eq_true rfl⟩) hK hP hD hS hA [13, 14, 15] [0, 1, 2, 3, 4, 5, 6, 7, 8, 9, 10, 11, 12] [0, 1, 2, 3, 4, 5, 6, 7, 8, 9, 10, 11, 12, 13, 14, 15] rfl (by decide) rfl (by decide) (by decide) (by decide) (fun _ => rfl) rfl rfl rfl rfl hl.1 rfl (Nat.le_of_ble_eq_true rfl) dX1_addDoor_86 ⟨Nat.zero_le _, Nat.zero_le _⟩ (fun u86 H locs q86 hP hD hS => ?_)
      try dsimp only at q86
      have hP : va_P D vwCl (WX cI ad f (upd (upd lo (3 * (61) + (0)) u74.1) (3 * (61) + (1)) u86.1) (upd (upd hi (3 * (61) + (0)) u74.2) (3 * (61) + (1)) u86.2) T Dv C) H := hP
      have hD : va_D A (WX cI ad f (upd (upd lo (3 * (61) + (0)) u74.1) (3 * (61) + (1)) u86.1) (upd (upd hi (3 * (61) + (0)) u74.2) (3 * (61) + (1)) u86.2) T Dv C) := hD
      rw [pk_un (by omega), pk_un (by omega)] at q86
      exact c_rv ((upd (upd lo (3 * (61) + (0)) u74.1) (3 * (61) + (1)) u86.1), (upd (upd hi (3 * (61) + (0)) u74.2) (3 * (61) + (1)) u86.2)) hx hb hr hlocks hK hP hD hS dX1_addDoor_89 (by
            have g0 : rwX (upd (upd lo (3 * (61) + (0)) u74.1) (3 * (61) + (1)) u86.1) (upd (upd hi (3 * (61) + (0)) u74.2) (3 * (61) + (1)) u86.2) 61 0 = u74.1.toInt := by
              show ((upd (upd lo (3 * (61) + (0)) u74.1) (3 * (61) + (1)) u86.1) (3 * 61 + 0)).toInt = _
              rw [pk_un (by omega), pk_us]
            have g1 : rwX (upd (upd lo (3 * (61) + (0)) u74.1) (3 * (61) + (1)) u86.1) (upd (upd hi (3 * (61) + (0)) u74.2) (3 * (61) + (1)) u86.2) 61 1 = u74.2.toInt := by
              show ((upd (upd hi (3 * (61) + (0)) u74.2) (3 * (61) + (1)) u86.2) (3 * 61 + 0)).toInt = _
              rw [pk_un (by omega), pk_us]
            have g2 : rwX (upd (upd lo (3 * (61) + (0)) u74.1) (3 * (61) + (1)) u86.1) (upd (upd hi (3 * (61) + (0)) u74.2) (3 * (61) + (1)) u86.2) 61 2 = u86.1.toInt := by
              show ((upd (upd lo (3 * (61) + (0)) u74.1) (3 * (61) + (1)) u86.1) (3 * 61 + 1)).toInt = _
              rw [pk_us]
            have g3 : rwX (upd (upd lo (3 * (61) + (0)) u74.1) (3 * (61) + (1)) u86.1) (upd (upd hi (3 * (61) + (0)) u74.2) (3 * (61) + (1)) u86.2) 61 3 = u86.2.toInt := by
              show ((upd (upd hi (3 * (61) + (0)) u74.2) (3 * (61) + (1)) u86.2) (3 * 61 + 1)).toInt = _
              rw [pk_us]
            have g4 : rwX (upd (upd lo (3 * (61) + (0)) u74.1) (3 * (61) + (1)) u86.1) (upd (upd hi (3 * (61) + (0)) u74.2) (3 * (61) + (1)) u86.2) 61 4 = rwX lo hi 61 4 := by
              show ((upd (upd lo (3 * (61) + (0)) u74.1) (3 * (61) + (1)) u86.1) (3 * 61 + 2)).toInt = _
              rw [pk_un (by omega), pk_un (by omega)]; rfl
            have g5 : rwX (upd (upd lo (3 * (61) + (0)) u74.1) (3 * (61) + (1)) u86.1) (upd (upd hi (3 * (61) + (0)) u74.2) (3 * (61) + (1)) u86.2) 61 5 = rwX lo hi 61 5 := by
              show ((upd (upd hi (3 * (61) + (0)) u74.2) (3 * (61) + (1)) u86.2) (3 * 61 + 2)).toInt = _
              rw [pk_un (by omega), pk_un (by omega)]; rfl
            have t0 : rwX lo hi 61 0 = (lo (3 * 61 + 0)).toInt := rfl
            have t1 : rwX lo hi 61 1 = (hi (3 * 61 + 0)).toInt := rfl
            have t2 : rwX lo hi 61 2 = (lo (3 * 61 + 1)).toInt := rfl
            have t3 : rwX lo hi 61 3 = (hi (3 * 61 + 1)).toInt := rfl
            have t4 : rwX lo hi 61 4 = (lo (3 * 61 + 2)).toInt := rfl
            have t5 : rwX lo hi 61 5 = (hi (3 * 61 + 2)).toInt := rfl
            refine ⟨by (try dsimp only); unfold ad6; omega, fun j hj => ⟨?_, ?_⟩⟩
            · (try dsimp only); rw [pk_un (by omega), pk_un (by omega)]
            · (try dsimp only); rw [pk_un (by omega), pk_un (by omega)])
    · skip
      refine lv_aload_n hx hb dX1_addDoor_36 rfl (lv_at hl 0 rfl) ?_
      refine va_get (D := D) (ci := 1) (v := .ref (ad 13)) (C := RX1) (T := TX1) (N := 16) hx hb hts inX1 hown hK hP 0 rfl rfl 12 (by decide) fl49 (fun _ h9 => h9) rfl dX1_addDoor_37 ?_
      refine c_bipush hx hb dX1_addDoor_40 (by decide) (fun v40 i40 => ?_)
      refine c_iconst hx hb dX1_addDoor_42 (by decide) (fun v42 i42 => ?_)
      refine lv_iload_n hx hb dX1_addDoor_43 rfl (lv_at hl 2 rfl) ?_
      refine lv_iload_n hx hb dX1_addDoor_44 rfl (lv_at hl 3 rfl) ?_
      refine c_cvv (As := [.int v40, .int v42, .int p2, .int p3]) (ci := 0) (q0 := 0) (wr := [((ad 0), .inr (1, [.ref (ad 1), .ref (ad 2), .ref (ad 3), .ref (ad 4), .ref (ad 5), .ref (ad 6), .ref (ad 7), .ref (ad 8), .ref (ad 9), .ref (ad 10), .ref (ad 11), .ref (ad 12), .ref (ad 13), .int T, .int Dv, .int C])), ((ad 1), .inl (cI, 6, .inl (f 0))), ((ad 2), .inl (cI, 6, .inl (f 1))), ((ad 3), .inl (cI, 6, .inl (f 2))), ((ad 4), .inl (cI, 6, .inl (f 3))), ((ad 5), .inl (cI, 360, .inl (f 4))), ((ad 6), .inl (cI, 360, .inl (f 5))), ((ad 7), .inl (cI, 2, .inl (f 6))), ((ad 8), .inl (cI, 2, .inl (f 7))), ((ad 9), .inl (cI, 20, .inl (f 8))), ((ad 10), .inl (cI, 20, .inl (f 9))), ((ad 11), .inl (cI, 20, .inl (f 10))), ((ad 12), .inl (cI, 20, .inl (f 11)))]) (wF := (fun u9 => (WX cI ad f (upd lo (3 * (61) + (1)) u9.1) (upd hi (3 * (61) + (1)) u9.2) T Dv C))) (kX0_widen l D cI ad lo hi v40 v42 p2 p3 (61) (1) (by omega) (by omega) (by omega) (by omega) (by omega) (by omega) (by omega) (by omega)) ⟨hx, hb, hml, hown, hts⟩ (cwV 4 hts gX1_addDoor_X0_widen rfl rfl rfl (by decide +kernel) ⟨Nat.le_of_ble_eq_true rfl, Nat.le_of_ble_eq_true rfl⟩) hK hP hD hS hA [13, 14, 15] [0, 1, 2, 3, 4, 5, 6, 7, 8, 9, 10, 11, 12] [0, 1, 2, 3, 4, 5, 6, 7, 8, 9, 10, 11, 12, 13, 14, 15] rfl (by decide) rfl (by decide) (by decide) (by decide) (fun _ => rfl) rfl rfl rfl rfl hl.1 rfl (Nat.le_of_ble_eq_true rfl) dX1_addDoor_45 ⟨Nat.zero_le _, Nat.zero_le _⟩ (fun u45 H locs q45 hP hD hS => ?_)
      try dsimp only at q45
      have hP : va_P D vwCl (WX cI ad f (upd lo (3 * (61) + (1)) u45.1) (upd hi (3 * (61) + (1)) u45.2) T Dv C) H := hP
      have hD : va_D A (WX cI ad f (upd lo (3 * (61) + (1)) u45.1) (upd hi (3 * (61) + (1)) u45.2) T Dv C) := hD
      refine lv_aload_n hx hb dX1_addDoor_48 rfl (lv_at hl 0 rfl) ?_
      refine va_get (D := D) (ci := 1) (v := .ref (ad 13)) (C := RX1) (T := TX1) (N := 16) hx hb hts inX1 hown hK hP 0 rfl rfl 12 (by decide) fl49 (fun _ h9 => h9) rfl dX1_addDoor_49 ?_
      refine c_bipush hx hb dX1_addDoor_52 (by decide) (fun v52 i52 => ?_)
      refine c_iconst hx hb dX1_addDoor_54 (by decide) (fun v54 i54 => ?_)
      refine lv_iload_n hx hb dX1_addDoor_55 rfl (lv_at hl 2 rfl) ?_
      refine lv_iload_n hx hb dX1_addDoor_56 rfl (lv_at hl 3 rfl) ?_
      refine c_cvv (As := [.int v52, .int v54, .int p2, .int p3]) (ci := 0) (q0 := 0) (wr := [((ad 0), .inr (1, [.ref (ad 1), .ref (ad 2), .ref (ad 3), .ref (ad 4), .ref (ad 5), .ref (ad 6), .ref (ad 7), .ref (ad 8), .ref (ad 9), .ref (ad 10), .ref (ad 11), .ref (ad 12), .ref (ad 13), .int T, .int Dv, .int C])), ((ad 1), .inl (cI, 6, .inl (f 0))), ((ad 2), .inl (cI, 6, .inl (f 1))), ((ad 3), .inl (cI, 6, .inl (f 2))), ((ad 4), .inl (cI, 6, .inl (f 3))), ((ad 5), .inl (cI, 360, .inl (f 4))), ((ad 6), .inl (cI, 360, .inl (f 5))), ((ad 7), .inl (cI, 2, .inl (f 6))), ((ad 8), .inl (cI, 2, .inl (f 7))), ((ad 9), .inl (cI, 20, .inl (f 8))), ((ad 10), .inl (cI, 20, .inl (f 9))), ((ad 11), .inl (cI, 20, .inl (f 10))), ((ad 12), .inl (cI, 20, .inl (f 11)))]) (wF := (fun u9 => (WX cI ad f (upd (upd lo (3 * (61) + (1)) u45.1) (3 * (61) + (2)) u9.1) (upd (upd hi (3 * (61) + (1)) u45.2) (3 * (61) + (2)) u9.2) T Dv C))) (kX0_widen l D cI ad (upd lo (3 * (61) + (1)) u45.1) (upd hi (3 * (61) + (1)) u45.2) v52 v54 p2 p3 (61) (2) (by omega) (by omega) (by omega) (by omega) (by rw [pk_un (by omega)]; omega) (by rw [pk_un (by omega)]; omega) (by omega) (by omega)) ⟨hx, hb, hml, hown, hts⟩ (cwV 4 hts gX1_addDoor_X0_widen rfl rfl rfl (by decide +kernel) ⟨Nat.le_of_ble_eq_true rfl, Nat.le_of_ble_eq_true rfl⟩) hK hP hD hS hA [13, 14, 15] [0, 1, 2, 3, 4, 5, 6, 7, 8, 9, 10, 11, 12] [0, 1, 2, 3, 4, 5, 6, 7, 8, 9, 10, 11, 12, 13, 14, 15] rfl (by decide) rfl (by decide) (by decide) (by decide) (fun _ => rfl) rfl rfl rfl rfl hl.1 rfl (Nat.le_of_ble_eq_true rfl) dX1_addDoor_57 ⟨Nat.zero_le _, Nat.zero_le _⟩ (fun u57 H locs q57 hP hD hS => ?_)
      try dsimp only at q57
      have hP : va_P D vwCl (WX cI ad f (upd (upd lo (3 * (61) + (1)) u45.1) (3 * (61) + (2)) u57.1) (upd (upd hi (3 * (61) + (1)) u45.2) (3 * (61) + (2)) u57.2) T Dv C) H := hP
      have hD : va_D A (WX cI ad f (upd (upd lo (3 * (61) + (1)) u45.1) (3 * (61) + (2)) u57.1) (upd (upd hi (3 * (61) + (1)) u45.2) (3 * (61) + (2)) u57.2) T Dv C) := hD
      rw [pk_un (by omega), pk_un (by omega)] at q57
      refine lv_goto (tgt := 89) hx hb dX1_addDoor_60 (by decide) ?_
      exact c_rv ((upd (upd lo (3 * (61) + (1)) u45.1) (3 * (61) + (2)) u57.1), (upd (upd hi (3 * (61) + (1)) u45.2) (3 * (61) + (2)) u57.2)) hx hb hr hlocks hK hP hD hS dX1_addDoor_89 (by
            have g0 : rwX (upd (upd lo (3 * (61) + (1)) u45.1) (3 * (61) + (2)) u57.1) (upd (upd hi (3 * (61) + (1)) u45.2) (3 * (61) + (2)) u57.2) 61 0 = rwX lo hi 61 0 := by
              show ((upd (upd lo (3 * (61) + (1)) u45.1) (3 * (61) + (2)) u57.1) (3 * 61 + 0)).toInt = _
              rw [pk_un (by omega), pk_un (by omega)]; rfl
            have g1 : rwX (upd (upd lo (3 * (61) + (1)) u45.1) (3 * (61) + (2)) u57.1) (upd (upd hi (3 * (61) + (1)) u45.2) (3 * (61) + (2)) u57.2) 61 1 = rwX lo hi 61 1 := by
              show ((upd (upd hi (3 * (61) + (1)) u45.2) (3 * (61) + (2)) u57.2) (3 * 61 + 0)).toInt = _
              rw [pk_un (by omega), pk_un (by omega)]; rfl
            have g2 : rwX (upd (upd lo (3 * (61) + (1)) u45.1) (3 * (61) + (2)) u57.1) (upd (upd hi (3 * (61) + (1)) u45.2) (3 * (61) + (2)) u57.2) 61 2 = u45.1.toInt := by
              show ((upd (upd lo (3 * (61) + (1)) u45.1) (3 * (61) + (2)) u57.1) (3 * 61 + 1)).toInt = _
              rw [pk_un (by omega), pk_us]
            have g3 : rwX (upd (upd lo (3 * (61) + (1)) u45.1) (3 * (61) + (2)) u57.1) (upd (upd hi (3 * (61) + (1)) u45.2) (3 * (61) + (2)) u57.2) 61 3 = u45.2.toInt := by
              show ((upd (upd hi (3 * (61) + (1)) u45.2) (3 * (61) + (2)) u57.2) (3 * 61 + 1)).toInt = _
              rw [pk_un (by omega), pk_us]
            have g4 : rwX (upd (upd lo (3 * (61) + (1)) u45.1) (3 * (61) + (2)) u57.1) (upd (upd hi (3 * (61) + (1)) u45.2) (3 * (61) + (2)) u57.2) 61 4 = u57.1.toInt := by
              show ((upd (upd lo (3 * (61) + (1)) u45.1) (3 * (61) + (2)) u57.1) (3 * 61 + 2)).toInt = _
              rw [pk_us]
            have g5 : rwX (upd (upd lo (3 * (61) + (1)) u45.1) (3 * (61) + (2)) u57.1) (upd (upd hi (3 * (61) + (1)) u45.2) (3 * (61) + (2)) u57.2) 61 5 = u57.2.toInt := by
              show ((upd (upd hi (3 * (61) + (1)) u45.2) (3 * (61) + (2)) u57.2) (3 * 61 + 2)).toInt = _
              rw [pk_us]
            have t0 : rwX lo hi 61 0 = (lo (3 * 61 + 0)).toInt := rfl
            have t1 : rwX lo hi 61 1 = (hi (3 * 61 + 0)).toInt := rfl
            have t2 : rwX lo hi 61 2 = (lo (3 * 61 + 1)).toInt := rfl
            have t3 : rwX lo hi 61 3 = (hi (3 * 61 + 1)).toInt := rfl
            have t4 : rwX lo hi 61 4 = (lo (3 * 61 + 2)).toInt := rfl
            have t5 : rwX lo hi 61 5 = (hi (3 * 61 + 2)).toInt := rfl
            refine ⟨by (try dsimp only); unfold ad6; omega, fun j hj => ⟨?_, ?_⟩⟩
            · (try dsimp only); rw [pk_un (by omega), pk_un (by omega)]
            · (try dsimp only); rw [pk_un (by omega), pk_un (by omega)])
  · skip
    refine lv_aload_n hx hb dX1_addDoor_4 rfl (lv_at hl 0 rfl) ?_
    refine va_get (D := D) (ci := 1) (v := .ref (ad 13)) (C := RX1) (T := TX1) (N := 16) hx hb hts inX1 hown hK hP 0 rfl rfl 12 (by decide) fl49 (fun _ h9 => h9) rfl dX1_addDoor_5 ?_
    refine c_bipush hx hb dX1_addDoor_8 (by decide) (fun v8 i8 => ?_)
    refine c_iconst hx hb dX1_addDoor_10 (by decide) (fun v10 i10 => ?_)
    refine lv_iload_n hx hb dX1_addDoor_11 rfl (lv_at hl 2 rfl) ?_
    refine lv_iload_n hx hb dX1_addDoor_12 rfl (lv_at hl 3 rfl) ?_
    refine c_cvv (As := [.int v8, .int v10, .int p2, .int p3]) (ci := 0) (q0 := 0) (wr := [((ad 0), .inr (1, [.ref (ad 1), .ref (ad 2), .ref (ad 3), .ref (ad 4), .ref (ad 5), .ref (ad 6), .ref (ad 7), .ref (ad 8), .ref (ad 9), .ref (ad 10), .ref (ad 11), .ref (ad 12), .ref (ad 13), .int T, .int Dv, .int C])), ((ad 1), .inl (cI, 6, .inl (f 0))), ((ad 2), .inl (cI, 6, .inl (f 1))), ((ad 3), .inl (cI, 6, .inl (f 2))), ((ad 4), .inl (cI, 6, .inl (f 3))), ((ad 5), .inl (cI, 360, .inl (f 4))), ((ad 6), .inl (cI, 360, .inl (f 5))), ((ad 7), .inl (cI, 2, .inl (f 6))), ((ad 8), .inl (cI, 2, .inl (f 7))), ((ad 9), .inl (cI, 20, .inl (f 8))), ((ad 10), .inl (cI, 20, .inl (f 9))), ((ad 11), .inl (cI, 20, .inl (f 10))), ((ad 12), .inl (cI, 20, .inl (f 11)))]) (wF := (fun u9 => (WX cI ad f (upd lo (3 * (61) + (0)) u9.1) (upd hi (3 * (61) + (0)) u9.2) T Dv C))) (kX0_widen l D cI ad lo hi v8 v10 p2 p3 (61) (0) (by omega) (by omega) (by omega) (by omega) (by omega) (by omega) (by omega) (by omega)) ⟨hx, hb, hml, hown, hts⟩ (cwV 4 hts gX1_addDoor_X0_widen rfl rfl rfl (by decide +kernel) ⟨Nat.le_of_ble_eq_true rfl, Nat.le_of_ble_eq_true rfl⟩) hK hP hD hS hA [13, 14, 15] [0, 1, 2, 3, 4, 5, 6, 7, 8, 9, 10, 11, 12] [0, 1, 2, 3, 4, 5, 6, 7, 8, 9, 10, 11, 12, 13, 14, 15] rfl (by decide) rfl (by decide) (by decide) (by decide) (fun _ => rfl) rfl rfl rfl rfl hl.1 rfl (Nat.le_of_ble_eq_true rfl) dX1_addDoor_13 ⟨Nat.zero_le _, Nat.zero_le _⟩ (fun u13 H locs q13 hP hD hS => ?_)
    try dsimp only at q13
    have hP : va_P D vwCl (WX cI ad f (upd lo (3 * (61) + (0)) u13.1) (upd hi (3 * (61) + (0)) u13.2) T Dv C) H := hP
    have hD : va_D A (WX cI ad f (upd lo (3 * (61) + (0)) u13.1) (upd hi (3 * (61) + (0)) u13.2) T Dv C) := hD
    refine lv_aload_n hx hb dX1_addDoor_16 rfl (lv_at hl 0 rfl) ?_
    refine va_get (D := D) (ci := 1) (v := .ref (ad 13)) (C := RX1) (T := TX1) (N := 16) hx hb hts inX1 hown hK hP 0 rfl rfl 12 (by decide) fl49 (fun _ h9 => h9) rfl dX1_addDoor_17 ?_
    refine c_bipush hx hb dX1_addDoor_20 (by decide) (fun v20 i20 => ?_)
    refine c_iconst hx hb dX1_addDoor_22 (by decide) (fun v22 i22 => ?_)
    refine lv_iload_n hx hb dX1_addDoor_23 rfl (lv_at hl 2 rfl) ?_
    refine lv_iload_n hx hb dX1_addDoor_24 rfl (lv_at hl 3 rfl) ?_
    refine c_cvv (As := [.int v20, .int v22, .int p2, .int p3]) (ci := 0) (q0 := 0) (wr := [((ad 0), .inr (1, [.ref (ad 1), .ref (ad 2), .ref (ad 3), .ref (ad 4), .ref (ad 5), .ref (ad 6), .ref (ad 7), .ref (ad 8), .ref (ad 9), .ref (ad 10), .ref (ad 11), .ref (ad 12), .ref (ad 13), .int T, .int Dv, .int C])), ((ad 1), .inl (cI, 6, .inl (f 0))), ((ad 2), .inl (cI, 6, .inl (f 1))), ((ad 3), .inl (cI, 6, .inl (f 2))), ((ad 4), .inl (cI, 6, .inl (f 3))), ((ad 5), .inl (cI, 360, .inl (f 4))), ((ad 6), .inl (cI, 360, .inl (f 5))), ((ad 7), .inl (cI, 2, .inl (f 6))), ((ad 8), .inl (cI, 2, .inl (f 7))), ((ad 9), .inl (cI, 20, .inl (f 8))), ((ad 10), .inl (cI, 20, .inl (f 9))), ((ad 11), .inl (cI, 20, .inl (f 10))), ((ad 12), .inl (cI, 20, .inl (f 11)))]) (wF := (fun u9 => (WX cI ad f (upd (upd lo (3 * (61) + (0)) u13.1) (3 * (61) + (2)) u9.1) (upd (upd hi (3 * (61) + (0)) u13.2) (3 * (61) + (2)) u9.2) T Dv C))) (kX0_widen l D cI ad (upd lo (3 * (61) + (0)) u13.1) (upd hi (3 * (61) + (0)) u13.2) v20 v22 p2 p3 (61) (2) (by omega) (by omega) (by omega) (by omega) (by rw [pk_un (by omega)]; omega) (by rw [pk_un (by omega)]; omega) (by omega) (by omega)) ⟨hx, hb, hml, hown, hts⟩ (cwV 4 hts gX1_addDoor_X0_widen rfl rfl rfl (by decide +kernel) ⟨Nat.le_of_ble_eq_true rfl, Nat.le_of_ble_eq_true rfl⟩) hK hP hD hS hA [13, 14, 15] [0, 1, 2, 3, 4, 5, 6, 7, 8, 9, 10, 11, 12] [0, 1, 2, 3, 4, 5, 6, 7, 8, 9, 10, 11, 12, 13, 14, 15] rfl (by decide) rfl (by decide) (by decide) (by decide) (fun _ => rfl) rfl rfl rfl rfl hl.1 rfl (Nat.le_of_ble_eq_true rfl) dX1_addDoor_25 ⟨Nat.zero_le _, Nat.zero_le _⟩ (fun u25 H locs q25 hP hD hS => ?_)
    try dsimp only at q25
    have hP : va_P D vwCl (WX cI ad f (upd (upd lo (3 * (61) + (0)) u13.1) (3 * (61) + (2)) u25.1) (upd (upd hi (3 * (61) + (0)) u13.2) (3 * (61) + (2)) u25.2) T Dv C) H := hP
    have hD : va_D A (WX cI ad f (upd (upd lo (3 * (61) + (0)) u13.1) (3 * (61) + (2)) u25.1) (upd (upd hi (3 * (61) + (0)) u13.2) (3 * (61) + (2)) u25.2) T Dv C) := hD
    rw [pk_un (by omega), pk_un (by omega)] at q25
    refine lv_goto (tgt := 89) hx hb dX1_addDoor_28 (by decide) ?_
    exact c_rv ((upd (upd lo (3 * (61) + (0)) u13.1) (3 * (61) + (2)) u25.1), (upd (upd hi (3 * (61) + (0)) u13.2) (3 * (61) + (2)) u25.2)) hx hb hr hlocks hK hP hD hS dX1_addDoor_89 (by
          have g0 : rwX (upd (upd lo (3 * (61) + (0)) u13.1) (3 * (61) + (2)) u25.1) (upd (upd hi (3 * (61) + (0)) u13.2) (3 * (61) + (2)) u25.2) 61 0 = u13.1.toInt := by
            show ((upd (upd lo (3 * (61) + (0)) u13.1) (3 * (61) + (2)) u25.1) (3 * 61 + 0)).toInt = _
            rw [pk_un (by omega), pk_us]
          have g1 : rwX (upd (upd lo (3 * (61) + (0)) u13.1) (3 * (61) + (2)) u25.1) (upd (upd hi (3 * (61) + (0)) u13.2) (3 * (61) + (2)) u25.2) 61 1 = u13.2.toInt := by
            show ((upd (upd hi (3 * (61) + (0)) u13.2) (3 * (61) + (2)) u25.2) (3 * 61 + 0)).toInt = _
            rw [pk_un (by omega), pk_us]
          have g2 : rwX (upd (upd lo (3 * (61) + (0)) u13.1) (3 * (61) + (2)) u25.1) (upd (upd hi (3 * (61) + (0)) u13.2) (3 * (61) + (2)) u25.2) 61 2 = rwX lo hi 61 2 := by
            show ((upd (upd lo (3 * (61) + (0)) u13.1) (3 * (61) + (2)) u25.1) (3 * 61 + 1)).toInt = _
            rw [pk_un (by omega), pk_un (by omega)]; rfl
          have g3 : rwX (upd (upd lo (3 * (61) + (0)) u13.1) (3 * (61) + (2)) u25.1) (upd (upd hi (3 * (61) + (0)) u13.2) (3 * (61) + (2)) u25.2) 61 3 = rwX lo hi 61 3 := by
            show ((upd (upd hi (3 * (61) + (0)) u13.2) (3 * (61) + (2)) u25.2) (3 * 61 + 1)).toInt = _
            rw [pk_un (by omega), pk_un (by omega)]; rfl
          have g4 : rwX (upd (upd lo (3 * (61) + (0)) u13.1) (3 * (61) + (2)) u25.1) (upd (upd hi (3 * (61) + (0)) u13.2) (3 * (61) + (2)) u25.2) 61 4 = u25.1.toInt := by
            show ((upd (upd lo (3 * (61) + (0)) u13.1) (3 * (61) + (2)) u25.1) (3 * 61 + 2)).toInt = _
            rw [pk_us]
          have g5 : rwX (upd (upd lo (3 * (61) + (0)) u13.1) (3 * (61) + (2)) u25.1) (upd (upd hi (3 * (61) + (0)) u13.2) (3 * (61) + (2)) u25.2) 61 5 = u25.2.toInt := by
            show ((upd (upd hi (3 * (61) + (0)) u13.2) (3 * (61) + (2)) u25.2) (3 * 61 + 2)).toInt = _
            rw [pk_us]
          have t0 : rwX lo hi 61 0 = (lo (3 * 61 + 0)).toInt := rfl
          have t1 : rwX lo hi 61 1 = (hi (3 * 61 + 0)).toInt := rfl
          have t2 : rwX lo hi 61 2 = (lo (3 * 61 + 1)).toInt := rfl
          have t3 : rwX lo hi 61 3 = (hi (3 * 61 + 1)).toInt := rfl
          have t4 : rwX lo hi 61 4 = (lo (3 * 61 + 2)).toInt := rfl
          have t5 : rwX lo hi 61 5 = (hi (3 * 61 + 2)).toInt := rfl
          refine ⟨by (try dsimp only); unfold ad6; omega, fun j hj => ⟨?_, ?_⟩⟩
          · (try dsimp only); rw [pk_un (by omega), pk_un (by omega)]
          · (try dsimp only); rw [pk_un (by omega), pk_un (by omega)])
set_option maxHeartbeats 4000000 in
set_option maxRecDepth 100000 in
theorem kX1_gatherChange (l : Launch) (D : va_G) (cI : ClassId) (ad : Nat → Nat) (f : Nat → Nat → Int32) (lo : Nat → Int32) (hi : Nat → Int32) (T : Int32) (Dv : Int32) (C : Int32) (Tn : Nat) (Dn : Nat) (Cn : Nat) (p1 : Int32) (p2 : Int32) (p3 : Int32) (t : Nat) (hT : T.toInt = (Tn : Int)) (hDv : Dv.toInt = (Dn : Int)) (hC : C.toInt = (Cn : Int)) (hI : Inv f Tn Dn Cn) (ht : p1.toInt = (t : Int)) (htn : t < Tn) (hm : 0 ≤ p2.toInt ∧ p2.toInt ≤ 5) : MV l yX1_gatherChange wsX1_gatherChange ({ frames := 3, cells := 0, slots := 0, locals := 69 } : Room) D [(cI, .int)] [.ref (ad 0), .int p1, .int p2, .int p3] (WX cI ad f lo hi T Dv C) (fun u : (Nat → Int32) × (Nat → Int32) => (WX cI ad f u.1 u.2 T Dv C)) (fun (u : (Nat → Int32) × (Nat → Int32)) => eq6 (rwX u.1 u.2 61) (crow (mvs f t p2.toInt p3.toInt Dn)) ∧ ∀ j, j < 183 → u.1 j = lo j ∧ u.2 j = hi j) := by
  refine c_ent (cc := cX1_gatherChange) (maxL := 5) (ret := none) (Qc := fun A => va_Qv (fun (u : (Nat → Int32) × (Nat → Int32)) => eq6 (rwX u.1 u.2 61) (crow (mvs f t p2.toInt p3.toInt Dn)) ∧ ∀ j, j < 183 → u.1 j = lo j ∧ u.2 j = hi j) (cB D [(cI, .int)] A (fun u : (Nat → Int32) × (Nat → Int32) => (WX cI ad f u.1 u.2 T Dv C))) A) (by decide) rfl (Nat.le_of_ble_eq_true rfl) ?_
  intro p e s m below meth c A ls hx hb hr hlocks hts hown hml hK hP hD hA hl
  have hS : va_S A s.heap s.heap [] := va_S.rf
  have hl : lv_has ls 5 [(0, .ref (ad 0)), (1, .int p1), (2, .int p2), (3, .int p3)] := hl
  have hP : va_P D vwCl (WX cI ad f lo hi T Dv C) s.heap := hP
  have fl9 := hts (.fieldLink RX1 9 "DoorBench" "kinds" "[I") (by decide +kernel)
  have fl49 := hts (.fieldLink RX1 49 "DoorBench" "spans" "LDoorBench$Spans;") (by decide +kernel)
  have fl61 := hts (.fieldLink RX1 61 "DoorBench" "doors" "I") (by decide +kernel)
  have inX1 : ∀ w ∈ wsX10, w ∈ wsX1_gatherChange := by decide +kernel
  obtain ⟨hI0, hId, hIr, hIs, hIc⟩ := id hI
  refine c_iconst hx hb dX1_gatherChange_0 (by decide) (fun v0 i0 => ?_)
  refine lv_istore (lv' := [(4, .int v0), (0, .ref (ad 0)), (1, .int p1), (2, .int p2), (3, .int p3)]) hx hb dX1_gatherChange_1 hl (by decide) rfl (fun ls hl => ?_)
  refine lv_iload hx hb dX1_gatherChange_3 (lv_at hl 0 rfl) ?_
  refine c_iconst hx hb dX1_gatherChange_5 (by decide) (fun v5 i5 => ?_)
  refine c_icmp_ge (tgt := 28) hx hb dX1_gatherChange_6 (by decide) (fun c6 => absurd c6 (by omega)) (fun c6 => ?_)
  refine lv_aload_n hx hb dX1_gatherChange_9 rfl (lv_at hl 1 rfl) ?_
  refine va_get (D := D) (ci := 1) (v := .ref (ad 13)) (C := RX1) (T := TX1) (N := 16) hx hb hts inX1 hown hK hP 0 rfl rfl 12 (by decide) fl49 (fun _ h9 => h9) rfl dX1_gatherChange_10 ?_
  refine c_bipush hx hb dX1_gatherChange_13 (by decide) (fun v13 i13 => ?_)
  refine lv_iload hx hb dX1_gatherChange_15 (lv_at hl 0 rfl) ?_
  refine c_iconst hx hb dX1_gatherChange_17 (by decide) (fun v17 i17 => ?_)
  refine c_iconst hx hb dX1_gatherChange_18 (by decide) (fun v18 i18 => ?_)
  refine c_cvv (As := [.int v13, .int v0, .int v17, .int v18]) (ci := 0) (q0 := 0) (wr := [((ad 0), .inr (1, [.ref (ad 1), .ref (ad 2), .ref (ad 3), .ref (ad 4), .ref (ad 5), .ref (ad 6), .ref (ad 7), .ref (ad 8), .ref (ad 9), .ref (ad 10), .ref (ad 11), .ref (ad 12), .ref (ad 13), .int T, .int Dv, .int C])), ((ad 1), .inl (cI, 6, .inl (f 0))), ((ad 2), .inl (cI, 6, .inl (f 1))), ((ad 3), .inl (cI, 6, .inl (f 2))), ((ad 4), .inl (cI, 6, .inl (f 3))), ((ad 5), .inl (cI, 360, .inl (f 4))), ((ad 6), .inl (cI, 360, .inl (f 5))), ((ad 7), .inl (cI, 2, .inl (f 6))), ((ad 8), .inl (cI, 2, .inl (f 7))), ((ad 9), .inl (cI, 20, .inl (f 8))), ((ad 10), .inl (cI, 20, .inl (f 9))), ((ad 11), .inl (cI, 20, .inl (f 10))), ((ad 12), .inl (cI, 20, .inl (f 11)))]) (wF := (fun u9 => (WX cI ad f (upd lo (3 * (61) + (0)) v17) (upd hi (3 * (61) + (0)) v18) T Dv C))) (kX0_put l D cI ad lo hi v13 v0 v17 v18 (61) (0) (by omega) (by omega) (by omega) (by omega)) ⟨hx, hb, hml, hown, hts⟩ (cwV 4 hts gX1_gatherChange_X0_put rfl rfl rfl (by decide +kernel) ⟨Nat.le_of_ble_eq_true rfl, Nat.le_of_ble_eq_true rfl⟩) hK hP hD hS hA [13, 14, 15] [0, 1, 2, 3, 4, 5, 6, 7, 8, 9, 10, 11, 12] [0, 1, 2, 3, 4, 5, 6, 7, 8, 9, 10, 11, 12, 13, 14, 15] rfl (by decide) rfl (by decide) (by decide) (by decide) (fun _ => rfl) rfl rfl rfl rfl hl.1 rfl (Nat.le_of_ble_eq_true rfl) dX1_gatherChange_19 ⟨Nat.zero_le _, Nat.zero_le _⟩ (fun u19 H locs q19 hP hD hS => ?_)
  try dsimp only at q19
  have hP : va_P D vwCl (WX cI ad f (upd lo (3 * (61) + (0)) v17) (upd hi (3 * (61) + (0)) v18) T Dv C) H := hP
  have hD : va_D A (WX cI ad f (upd lo (3 * (61) + (0)) v17) (upd hi (3 * (61) + (0)) v18) T Dv C) := hD
  refine c_iinc (k := 0) hx hb (fun v22 => [(4, .int v22), (0, .ref (ad 0)), (1, .int p1), (2, .int p2), (3, .int p3)]) dX1_gatherChange_22 hl rfl (by decide) (by omega) (by decide) (fun _ => rfl) (fun v22 ls i22 hl => ?_)
  have hl : lv_has ls 5 [(4, .int v22), (0, .ref (ad 0)), (1, .int p1), (2, .int p2), (3, .int p3)] := hl
  refine lv_goto (tgt := 3) hx hb dX1_gatherChange_25 (by decide) ?_
  refine lv_iload hx hb dX1_gatherChange_3 (lv_at hl 0 rfl) ?_
  refine c_iconst hx hb dX1_gatherChange_5 (by decide) (fun v5_2 i5_2 => ?_)
  refine c_icmp_ge (tgt := 28) hx hb dX1_gatherChange_6 (by decide) (fun c6_2 => absurd c6_2 (by omega)) (fun c6_2 => ?_)
  refine lv_aload_n hx hb dX1_gatherChange_9 rfl (lv_at hl 1 rfl) ?_
  refine va_get (D := D) (ci := 1) (v := .ref (ad 13)) (C := RX1) (T := TX1) (N := 16) hx hb hts inX1 hown hK hP 0 rfl rfl 12 (by decide) fl49 (fun _ h9 => h9) rfl dX1_gatherChange_10 ?_
  refine c_bipush hx hb dX1_gatherChange_13 (by decide) (fun v13_2 i13_2 => ?_)
  refine lv_iload hx hb dX1_gatherChange_15 (lv_at hl 0 rfl) ?_
  refine c_iconst hx hb dX1_gatherChange_17 (by decide) (fun v17_2 i17_2 => ?_)
  refine c_iconst hx hb dX1_gatherChange_18 (by decide) (fun v18_2 i18_2 => ?_)
  refine c_cvv (As := [.int v13_2, .int v22, .int v17_2, .int v18_2]) (ci := 0) (q0 := 0) (wr := [((ad 0), .inr (1, [.ref (ad 1), .ref (ad 2), .ref (ad 3), .ref (ad 4), .ref (ad 5), .ref (ad 6), .ref (ad 7), .ref (ad 8), .ref (ad 9), .ref (ad 10), .ref (ad 11), .ref (ad 12), .ref (ad 13), .int T, .int Dv, .int C])), ((ad 1), .inl (cI, 6, .inl (f 0))), ((ad 2), .inl (cI, 6, .inl (f 1))), ((ad 3), .inl (cI, 6, .inl (f 2))), ((ad 4), .inl (cI, 6, .inl (f 3))), ((ad 5), .inl (cI, 360, .inl (f 4))), ((ad 6), .inl (cI, 360, .inl (f 5))), ((ad 7), .inl (cI, 2, .inl (f 6))), ((ad 8), .inl (cI, 2, .inl (f 7))), ((ad 9), .inl (cI, 20, .inl (f 8))), ((ad 10), .inl (cI, 20, .inl (f 9))), ((ad 11), .inl (cI, 20, .inl (f 10))), ((ad 12), .inl (cI, 20, .inl (f 11)))]) (wF := (fun u9 => (WX cI ad f (upd (upd lo (3 * (61) + (0)) v17) (3 * (61) + (1)) v17_2) (upd (upd hi (3 * (61) + (0)) v18) (3 * (61) + (1)) v18_2) T Dv C))) (kX0_put l D cI ad (upd lo (3 * (61) + (0)) v17) (upd hi (3 * (61) + (0)) v18) v13_2 v22 v17_2 v18_2 (61) (1) (by omega) (by omega) (by omega) (by omega)) ⟨hx, hb, hml, hown, hts⟩ (cwV 4 hts gX1_gatherChange_X0_put rfl rfl rfl (by decide +kernel) ⟨Nat.le_of_ble_eq_true rfl, Nat.le_of_ble_eq_true rfl⟩) hK hP hD hS hA [13, 14, 15] [0, 1, 2, 3, 4, 5, 6, 7, 8, 9, 10, 11, 12] [0, 1, 2, 3, 4, 5, 6, 7, 8, 9, 10, 11, 12, 13, 14, 15] rfl (by decide) rfl (by decide) (by decide) (by decide) (fun _ => rfl) rfl rfl rfl rfl hl.1 rfl (Nat.le_of_ble_eq_true rfl) dX1_gatherChange_19 ⟨Nat.zero_le _, Nat.zero_le _⟩ (fun u19_2 H locs q19_2 hP hD hS => ?_)
  try dsimp only at q19_2
  have hP : va_P D vwCl (WX cI ad f (upd (upd lo (3 * (61) + (0)) v17) (3 * (61) + (1)) v17_2) (upd (upd hi (3 * (61) + (0)) v18) (3 * (61) + (1)) v18_2) T Dv C) H := hP
  have hD : va_D A (WX cI ad f (upd (upd lo (3 * (61) + (0)) v17) (3 * (61) + (1)) v17_2) (upd (upd hi (3 * (61) + (0)) v18) (3 * (61) + (1)) v18_2) T Dv C) := hD
  refine c_iinc (k := 0) hx hb (fun v22_2 => [(4, .int v22_2), (0, .ref (ad 0)), (1, .int p1), (2, .int p2), (3, .int p3)]) dX1_gatherChange_22 hl rfl (by decide) (by omega) (by decide) (fun _ => rfl) (fun v22_2 ls i22_2 hl => ?_)
  have hl : lv_has ls 5 [(4, .int v22_2), (0, .ref (ad 0)), (1, .int p1), (2, .int p2), (3, .int p3)] := hl
  refine lv_goto (tgt := 3) hx hb dX1_gatherChange_25 (by decide) ?_
  refine lv_iload hx hb dX1_gatherChange_3 (lv_at hl 0 rfl) ?_
  refine c_iconst hx hb dX1_gatherChange_5 (by decide) (fun v5_3 i5_3 => ?_)
  refine c_icmp_ge (tgt := 28) hx hb dX1_gatherChange_6 (by decide) (fun c6_3 => absurd c6_3 (by omega)) (fun c6_3 => ?_)
  refine lv_aload_n hx hb dX1_gatherChange_9 rfl (lv_at hl 1 rfl) ?_
  refine va_get (D := D) (ci := 1) (v := .ref (ad 13)) (C := RX1) (T := TX1) (N := 16) hx hb hts inX1 hown hK hP 0 rfl rfl 12 (by decide) fl49 (fun _ h9 => h9) rfl dX1_gatherChange_10 ?_
  refine c_bipush hx hb dX1_gatherChange_13 (by decide) (fun v13_3 i13_3 => ?_)
  refine lv_iload hx hb dX1_gatherChange_15 (lv_at hl 0 rfl) ?_
  refine c_iconst hx hb dX1_gatherChange_17 (by decide) (fun v17_3 i17_3 => ?_)
  refine c_iconst hx hb dX1_gatherChange_18 (by decide) (fun v18_3 i18_3 => ?_)
  refine c_cvv (As := [.int v13_3, .int v22_2, .int v17_3, .int v18_3]) (ci := 0) (q0 := 0) (wr := [((ad 0), .inr (1, [.ref (ad 1), .ref (ad 2), .ref (ad 3), .ref (ad 4), .ref (ad 5), .ref (ad 6), .ref (ad 7), .ref (ad 8), .ref (ad 9), .ref (ad 10), .ref (ad 11), .ref (ad 12), .ref (ad 13), .int T, .int Dv, .int C])), ((ad 1), .inl (cI, 6, .inl (f 0))), ((ad 2), .inl (cI, 6, .inl (f 1))), ((ad 3), .inl (cI, 6, .inl (f 2))), ((ad 4), .inl (cI, 6, .inl (f 3))), ((ad 5), .inl (cI, 360, .inl (f 4))), ((ad 6), .inl (cI, 360, .inl (f 5))), ((ad 7), .inl (cI, 2, .inl (f 6))), ((ad 8), .inl (cI, 2, .inl (f 7))), ((ad 9), .inl (cI, 20, .inl (f 8))), ((ad 10), .inl (cI, 20, .inl (f 9))), ((ad 11), .inl (cI, 20, .inl (f 10))), ((ad 12), .inl (cI, 20, .inl (f 11)))]) (wF := (fun u9 => (WX cI ad f (upd (upd (upd lo (3 * (61) + (0)) v17) (3 * (61) + (1)) v17_2) (3 * (61) + (2)) v17_3) (upd (upd (upd hi (3 * (61) + (0)) v18) (3 * (61) + (1)) v18_2) (3 * (61) + (2)) v18_3) T Dv C))) (kX0_put l D cI ad (upd (upd lo (3 * (61) + (0)) v17) (3 * (61) + (1)) v17_2) (upd (upd hi (3 * (61) + (0)) v18) (3 * (61) + (1)) v18_2) v13_3 v22_2 v17_3 v18_3 (61) (2) (by omega) (by omega) (by omega) (by omega)) ⟨hx, hb, hml, hown, hts⟩ (cwV 4 hts gX1_gatherChange_X0_put rfl rfl rfl (by decide +kernel) ⟨Nat.le_of_ble_eq_true rfl, Nat.le_of_ble_eq_true rfl⟩) hK hP hD hS hA [13, 14, 15] [0, 1, 2, 3, 4, 5, 6, 7, 8, 9, 10, 11, 12] [0, 1, 2, 3, 4, 5, 6, 7, 8, 9, 10, 11, 12, 13, 14, 15] rfl (by decide) rfl (by decide) (by decide) (by decide) (fun _ => rfl) rfl rfl rfl rfl hl.1 rfl (Nat.le_of_ble_eq_true rfl) dX1_gatherChange_19 ⟨Nat.zero_le _, Nat.zero_le _⟩ (fun u19_3 H locs q19_3 hP hD hS => ?_)
  try dsimp only at q19_3
  have hP : va_P D vwCl (WX cI ad f (upd (upd (upd lo (3 * (61) + (0)) v17) (3 * (61) + (1)) v17_2) (3 * (61) + (2)) v17_3) (upd (upd (upd hi (3 * (61) + (0)) v18) (3 * (61) + (1)) v18_2) (3 * (61) + (2)) v18_3) T Dv C) H := hP
  have hD : va_D A (WX cI ad f (upd (upd (upd lo (3 * (61) + (0)) v17) (3 * (61) + (1)) v17_2) (3 * (61) + (2)) v17_3) (upd (upd (upd hi (3 * (61) + (0)) v18) (3 * (61) + (1)) v18_2) (3 * (61) + (2)) v18_3) T Dv C) := hD
  refine c_iinc (k := 0) hx hb (fun v22_3 => [(4, .int v22_3), (0, .ref (ad 0)), (1, .int p1), (2, .int p2), (3, .int p3)]) dX1_gatherChange_22 hl rfl (by decide) (by omega) (by decide) (fun _ => rfl) (fun v22_3 ls i22_3 hl => ?_)
  have hl : lv_has ls 5 [(4, .int v22_3), (0, .ref (ad 0)), (1, .int p1), (2, .int p2), (3, .int p3)] := hl
  refine lv_goto (tgt := 3) hx hb dX1_gatherChange_25 (by decide) ?_
  refine lv_iload hx hb dX1_gatherChange_3 (lv_at hl 0 rfl) ?_
  refine c_iconst hx hb dX1_gatherChange_5 (by decide) (fun v5_4 i5_4 => ?_)
  refine c_icmp_ge (tgt := 28) hx hb dX1_gatherChange_6 (by decide) (fun c6_4 => ?_) (fun c6_4 => absurd c6_4 (by omega))
  have U1 := up3 lo 61 v17 v17_2 v17_3
  have U2 := up3 hi 61 v18 v18_2 v18_3
  obtain ⟨lo0, elo⟩ : ∃ z, z = (upd (upd (upd lo (3 * (61) + (0)) v17) (3 * (61) + (1)) v17_2) (3 * (61) + (2)) v17_3) := ⟨_, rfl⟩
  obtain ⟨hi0, ehi⟩ : ∃ z, z = (upd (upd (upd hi (3 * (61) + (0)) v18) (3 * (61) + (1)) v18_2) (3 * (61) + (2)) v18_3) := ⟨_, rfl⟩
  rw [← elo, ← ehi] at hP hD
  rw [← elo] at U1
  rw [← ehi] at U2
  have hz : eq6 (rwX lo0 hi0 61) (crow (mvs f t p2.toInt p3.toInt 0)) := by
    refine ⟨?_, ?_, ?_, ?_, ?_, ?_⟩
    · show (lo0 (3 * 61 + 0)).toInt = 0; rw [U1.1.1]; assumption
    · show (hi0 (3 * 61 + 0)).toInt = 0; rw [U2.1.1]; assumption
    · show (lo0 (3 * 61 + 1)).toInt = 0; rw [U1.1.2.1]; assumption
    · show (hi0 (3 * 61 + 1)).toInt = 0; rw [U2.1.2.1]; assumption
    · show (lo0 (3 * 61 + 2)).toInt = 0; rw [U1.1.2.2]; assumption
    · show (hi0 (3 * 61 + 2)).toInt = 0; rw [U2.1.2.2]; assumption
  have hfr : ∀ j, j < 183 → lo0 j = lo j ∧ hi0 j = hi j := fun j hj => ⟨U1.2 j (by omega), U2.2 j (by omega)⟩
  refine c_iconst hx hb dX1_gatherChange_28 (by decide) (fun v28 i28 => ?_)
  refine lv_istore (lv' := [(4, .int v28), (0, .ref (ad 0)), (1, .int p1), (2, .int p2), (3, .int p3)]) hx hb dX1_gatherChange_29 hl (by decide) rfl (fun ls hl => ?_)
  have HL31 : ∀ (n : Nat) (d : Nat) (x4 : Int32) (lo1 : Nat → Int32) (hi1 : Nat → Int32) (H : Heap) (locs : List Loc) (ls : Array Slot), (x4.toInt = (d : Int)) → (d ≤ Dn) → (Dn + 1 ≤ d + n) → (eq6 (rwX lo1 hi1 61) (crow (mvs f t p2.toInt p3.toInt d))) → (∀ j, j < 183 → lo1 j = lo j ∧ hi1 j = hi j) → va_P D vwCl (WX cI ad f lo1 hi1 T Dv C) H → va_D A (WX cI ad f lo1 hi1 T Dv C) → va_S A s.heap H locs → lv_has ls 5 [(0, .ref (ad 0)), (1, .int p1), (2, .int p2), (3, .int p3), (4, .int x4)] → W p l e ({ frames := 3, cells := 0, slots := 0, locals := 69 } : Room) s m [.ref (ad 0), .int p1, .int p2, .int p3].toArray below meth c H locs 0 0 (MQ below (va_Qv (fun (u : (Nat → Int32) × (Nat → Int32)) => eq6 (rwX u.1 u.2 61) (crow (mvs f t p2.toInt p3.toInt Dn)) ∧ ∀ j, j < 183 → u.1 j = lo j ∧ u.2 j = hi j) (cB D [(cI, .int)] A (fun u : (Nat → Int32) × (Nat → Int32) => (WX cI ad f u.1 u.2 T Dv C))) A) [.ref (ad 0), .int p1, .int p2, .int p3].toArray s 0 0 A) (F0 m 31 ls []) := by
    intro n
    induction n with
    | zero => intro d x4 lo1 hi1 H locs ls hx4 hdn hms hz1 hfr1; exact absurd hms (by omega)
    | succ n ih31 =>
      intro d x4 lo1 hi1 H locs ls hx4 hdn hms hz1 hfr1 hP hD hS hl
      refine lv_iload hx hb dX1_gatherChange_31 (lv_at hl 4 rfl) ?_
      refine lv_aload_n hx hb dX1_gatherChange_33 rfl (lv_at hl 0 rfl) ?_
      refine va_get (D := D) (ci := 1) (v := .int Dv) (C := RX1) (T := TX1) (N := 16) hx hb hts inX1 hown hK hP 0 rfl rfl 14 (by decide) fl61 (fun _ h9 => h9) rfl dX1_gatherChange_34 ?_
      refine c_icmp_ge (tgt := 79) hx hb dX1_gatherChange_37 (by decide) (fun c37 => ?_) (fun c37 => ?_)
      · skip
        exact c_rv (lo1, hi1) hx hb hr hlocks hK hP hD hS dX1_gatherChange_79 (by
                have hdd : d = Dn := by omega
                subst hdd
                exact ⟨hz1, hfr1⟩)
      · skip
        refine lv_iload hx hb dX1_gatherChange_40 (lv_at hl 4 rfl) ?_
        refine lv_iload_n hx hb dX1_gatherChange_42 rfl (lv_at hl 3 rfl) ?_
        refine c_icmp_eq (tgt := 73) hx hb dX1_gatherChange_43 (by decide) (fun c43 => ?_) (fun c43 => ?_)
        · skip
          refine c_iinc (k := 4) hx hb (fun v73 => [(4, .int v73), (0, .ref (ad 0)), (1, .int p1), (2, .int p2), (3, .int p3)]) dX1_gatherChange_73 hl rfl (by decide) (by omega) (by decide) (fun _ => rfl) (fun v73 ls i73 hl => ?_)
          have hl : lv_has ls 5 [(4, .int v73), (0, .ref (ad 0)), (1, .int p1), (2, .int p2), (3, .int p3)] := hl
          refine lv_goto (tgt := 31) hx hb dX1_gatherChange_76 (by decide) ?_
          exact ih31 (d + 1) v73 lo1 hi1 _ _ _ (by omega) (by omega) (by omega) (by have q := crow_but (f := f) (t := t) (mr := p2.toInt) (but := p3.toInt) (d := d) (by omega); unfold eq6 at *; omega) hfr1 hP hD hS (lv_sub hl [1, 2, 3, 4, 0] rfl)
        · skip
          have n1 := hId d (by omega)
          have n2 := n_bd (mr := p2.toInt) hI (show d < Dn by omega) htn hm.1 hm.2
          have n3 := crow_bd (but := p3.toInt) hI htn hm.1 hm.2 d (by omega)
          have n4 : bd (rwX lo1 hi1 61) 1000000 := by unfold bd eq6 at *; omega
          refine lv_aload_n hx hb dX1_gatherChange_46 rfl (lv_at hl 0 rfl) ?_
          refine lv_aload_n hx hb dX1_gatherChange_47 rfl (lv_at hl 0 rfl) ?_
          refine va_get (D := D) (ci := 1) (v := .ref (ad 1)) (C := RX1) (T := TX1) (N := 16) hx hb hts inX1 hown hK hP 0 rfl rfl 0 (by decide) fl9 (fun _ h9 => h9) rfl dX1_gatherChange_48 ?_
          refine lv_iload hx hb dX1_gatherChange_51 (lv_at hl 4 rfl) ?_
          refine c_iald hx hb hK hP 1 0 rfl rfl (d) (by omega) (by omega) dX1_gatherChange_53 (fun v53 e53 => ?_)
          have i53 : v53.toInt = ((f 0) (d)).toInt := by rw [e53]
          refine lv_aload_n hx hb dX1_gatherChange_54 rfl (lv_at hl 0 rfl) ?_
          refine lv_iload hx hb dX1_gatherChange_55 (lv_at hl 4 rfl) ?_
          refine lv_iload_n hx hb dX1_gatherChange_57 rfl (lv_at hl 1 rfl) ?_
          refine lv_iload_n hx hb dX1_gatherChange_58 rfl (lv_at hl 2 rfl) ?_
          refine c_wvi (As := [.int x4, .int p1, .int p2]) (ci := 1) (q0 := 0) (kX1_leastNet l D cI ad f lo1 hi1 T Dv C Tn Dn Cn x4 p1 p2 (d) (t) hT hDv hC hI (by omega) (by omega) (by omega) (by omega) (by omega)) ⟨hx, hb, hml, hown, hts⟩ (cwV 3 hts gX1_gatherChange_X1_leastNet rfl rfl rfl (by decide +kernel) ⟨Nat.le_of_ble_eq_true rfl, Nat.le_of_ble_eq_true rfl⟩) hK hP hD hS hA rfl rfl rfl rfl hl.1 rfl (Nat.le_of_ble_eq_true rfl) dX1_gatherChange_59 ⟨Nat.zero_le _, Nat.zero_le _⟩ (fun r59 u59 H locs q59 hP hD hS => ?_)
          try dsimp only at q59
          have hP : va_P D vwCl (WX cI ad f lo1 hi1 T Dv C) H := hP
          have hD : va_D A (WX cI ad f lo1 hi1 T Dv C) := hD
          refine lv_aload_n hx hb dX1_gatherChange_62 rfl (lv_at hl 0 rfl) ?_
          refine lv_iload hx hb dX1_gatherChange_63 (lv_at hl 4 rfl) ?_
          refine lv_iload_n hx hb dX1_gatherChange_65 rfl (lv_at hl 1 rfl) ?_
          refine lv_iload_n hx hb dX1_gatherChange_66 rfl (lv_at hl 2 rfl) ?_
          refine c_wvi (As := [.int x4, .int p1, .int p2]) (ci := 1) (q0 := 0) (kX1_mostNet l D cI ad f lo1 hi1 T Dv C Tn Dn Cn x4 p1 p2 (d) (t) hT hDv hC hI (by omega) (by omega) (by omega) (by omega) (by omega)) ⟨hx, hb, hml, hown, hts⟩ (cwV 3 hts gX1_gatherChange_X1_mostNet rfl rfl rfl (by decide +kernel) ⟨Nat.le_of_ble_eq_true rfl, Nat.le_of_ble_eq_true rfl⟩) hK hP hD hS hA rfl rfl rfl rfl hl.1 rfl (Nat.le_of_ble_eq_true rfl) dX1_gatherChange_67 ⟨Nat.zero_le _, Nat.zero_le _⟩ (fun r67 u67 H locs q67 hP hD hS => ?_)
          try dsimp only at q67
          have hP : va_P D vwCl (WX cI ad f lo1 hi1 T Dv C) H := hP
          have hD : va_D A (WX cI ad f lo1 hi1 T Dv C) := hD
          refine c_wvv (As := [.int v53, .int r59, .int r67]) (ci := 1) (q0 := 0) (kX1_addDoor l D cI ad f lo1 hi1 T Dv C Tn Dn Cn v53 r59 r67 hT hDv hC hI (by omega) (by omega) (by omega) n4) ⟨hx, hb, hml, hown, hts⟩ (cwV 3 hts gX1_gatherChange_X1_addDoor rfl rfl rfl (by decide +kernel) ⟨Nat.le_of_ble_eq_true rfl, Nat.le_of_ble_eq_true rfl⟩) hK hP hD hS hA rfl rfl rfl rfl hl.1 rfl (Nat.le_of_ble_eq_true rfl) dX1_gatherChange_70 ⟨Nat.zero_le _, Nat.zero_le _⟩ (fun u70 H locs q70 hP hD hS => ?_)
          try dsimp only at q70
          have hP : va_P D vwCl (WX cI ad f u70.1 u70.2 T Dv C) H := hP
          have hD : va_D A (WX cI ad f u70.1 u70.2 T Dv C) := hD
          rw [i53, q59, q67] at q70
          refine c_iinc (k := 4) hx hb (fun v73_2 => [(4, .int v73_2), (0, .ref (ad 0)), (1, .int p1), (2, .int p2), (3, .int p3)]) dX1_gatherChange_73 hl rfl (by decide) (by omega) (by decide) (fun _ => rfl) (fun v73_2 ls i73_2 hl => ?_)
          have hl : lv_has ls 5 [(4, .int v73_2), (0, .ref (ad 0)), (1, .int p1), (2, .int p2), (3, .int p3)] := hl
          refine lv_goto (tgt := 31) hx hb dX1_gatherChange_76 (by decide) ?_
          exact ih31 (d + 1) v73_2 u70.1 u70.2 _ _ _ (by omega) (by omega) (by omega) (ad6_eq q70.1 (crow_st (by omega) (hId d (by omega)).1) hz1 ) (fun j hj => ⟨(q70.2 j hj).1.trans (hfr1 j hj).1, (q70.2 j hj).2.trans (hfr1 j hj).2⟩) hP hD hS (lv_sub hl [1, 2, 3, 4, 0] rfl)
  exact HL31 (Dn + 1) 0 v28 lo0 hi0 _ _ _ (by omega) (by omega) (by omega) hz hfr hP hD hS (lv_sub hl [1, 2, 3, 4, 0] rfl)
end
section
theorem rw_keep {lo hi lo' hi' : Nat → Int32} {a : Nat} (h : ∀ j, 3 * a ≤ j → j < 3 * a + 3 → lo' j = lo j ∧ hi' j = hi j) : rwX lo' hi' a = rwX lo hi a := by
  funext i
  have h0 := h (3 * a) (by omega) (by omega); have h1 := h (3 * a + 1) (by omega) (by omega); have h2 := h (3 * a + 2) (by omega) (by omega)
  match i with
  | 0 => show (lo' (3 * a)).toInt = (lo (3 * a)).toInt; rw [h0.1]
  | 1 => show (hi' (3 * a)).toInt = (hi (3 * a)).toInt; rw [h0.2]
  | 2 => show (lo' (3 * a + 1)).toInt = (lo (3 * a + 1)).toInt; rw [h1.1]
  | 3 => show (hi' (3 * a + 1)).toInt = (hi (3 * a + 1)).toInt; rw [h1.2]
  | 4 => show (lo' (3 * a + 2)).toInt = (lo (3 * a + 2)).toInt; rw [h2.1]
  | i + 5 => show (hi' (3 * a + 2)).toInt = (hi (3 * a + 2)).toInt; rw [h2.2]
/-- the row behind a cut of one span -/
theorem cut_row {lo hi : Nat → Int32} {a w : Nat} {x y : Int32} (hw : w ≤ 2) : (∀ k, k ≤ 2 → k ≠ w → upd lo (3 * a + w) x (3 * a + k) = lo (3 * a + k) ∧ upd hi (3 * a + w) y (3 * a + k) = hi (3 * a + k)) ∧ upd lo (3 * a + w) x (3 * a + w) = x ∧ upd hi (3 * a + w) y (3 * a + w) = y :=
  ⟨fun k hk hne => ⟨pk_un (by omega), pk_un (by omega)⟩, pk_us, pk_us⟩
theorem cut_in {lo hi : Nat → Int32} {a w : Nat} {x y : Int32} {l h : Int} (hw : w ≤ 2) (hx : isMx x.toInt (lo (3 * a + w)).toInt l) (hy : isMn y.toInt (hi (3 * a + w)).toInt h) (p q : Int) :
    inR (rwX (upd lo (3 * a + w) x) (upd hi (3 * a + w) y) a) p q ↔ inR (rwX lo hi a) p q ∧ ((w = 0 ∧ l ≤ p ∧ p ≤ h) ∨ (w = 1 ∧ l ≤ q ∧ q ≤ h) ∨ (w = 2 ∧ l ≤ p + q ∧ p + q ≤ h)) := by
  obtain ⟨hk, e1, e2⟩ := cut_row (lo := lo) (hi := hi) (a := a) (x := x) (y := y) hw
  have hx' : x.toInt = max _ _ := hx
  have hy' : y.toInt = min _ _ := hy
  have g : ∀ (L H : Nat → Int32), inR (rwX L H a) p q ↔ ((L (3 * a + 0)).toInt ≤ p ∧ p ≤ (H (3 * a + 0)).toInt ∧ (L (3 * a + 1)).toInt ≤ q ∧ q ≤ (H (3 * a + 1)).toInt ∧ (L (3 * a + 2)).toInt ≤ p + q ∧ p + q ≤ (H (3 * a + 2)).toInt) := fun L H => Iff.rfl
  rw [g, g]
  rcases (show w = 0 ∨ w = 1 ∨ w = 2 by omega) with rfl | rfl | rfl
  · rw [e1, e2, (hk 1 (by omega) (by omega)).1, (hk 1 (by omega) (by omega)).2, (hk 2 (by omega) (by omega)).1, (hk 2 (by omega) (by omega)).2]; omega
  · rw [e1, e2, (hk 0 (by omega) (by omega)).1, (hk 0 (by omega) (by omega)).2, (hk 2 (by omega) (by omega)).1, (hk 2 (by omega) (by omega)).2]; omega
  · rw [e1, e2, (hk 0 (by omega) (by omega)).1, (hk 0 (by omega) (by omega)).2, (hk 1 (by omega) (by omega)).1, (hk 1 (by omega) (by omega)).2]; omega
theorem cut_bd {lo hi : Nat → Int32} {a w : Nat} {x y : Int32} {l h B : Int} (hw : w ≤ 2) (hx : isMx x.toInt (lo (3 * a + w)).toInt l) (hy : isMn y.toInt (hi (3 * a + w)).toInt h) (hB : bd (rwX lo hi a) B) (hl : l ≤ B) (hh : -B ≤ h) : bd (rwX (upd lo (3 * a + w) x) (upd hi (3 * a + w) y) a) B := by
  obtain ⟨hk, e1, e2⟩ := cut_row (lo := lo) (hi := hi) (a := a) (x := x) (y := y) hw
  have hx' : x.toInt = max _ _ := hx
  have hy' : y.toInt = min _ _ := hy
  have g : ∀ (L H : Nat → Int32), bd (rwX L H a) B ↔ ((-B ≤ (L (3 * a + 0)).toInt ∧ (L (3 * a + 0)).toInt ≤ B) ∧ (-B ≤ (H (3 * a + 0)).toInt ∧ (H (3 * a + 0)).toInt ≤ B) ∧ (-B ≤ (L (3 * a + 1)).toInt ∧ (L (3 * a + 1)).toInt ≤ B) ∧ (-B ≤ (H (3 * a + 1)).toInt ∧ (H (3 * a + 1)).toInt ≤ B) ∧ (-B ≤ (L (3 * a + 2)).toInt ∧ (L (3 * a + 2)).toInt ≤ B) ∧ (-B ≤ (H (3 * a + 2)).toInt ∧ (H (3 * a + 2)).toInt ≤ B)) := fun L H => Iff.rfl
  rw [g] at hB ⊢
  rcases (show w = 0 ∨ w = 1 ∨ w = 2 by omega) with rfl | rfl | rfl
  · rw [e1, e2, (hk 1 (by omega) (by omega)).1, (hk 1 (by omega) (by omega)).2, (hk 2 (by omega) (by omega)).1, (hk 2 (by omega) (by omega)).2]; omega
  · rw [e1, e2, (hk 0 (by omega) (by omega)).1, (hk 0 (by omega) (by omega)).2, (hk 2 (by omega) (by omega)).1, (hk 2 (by omega) (by omega)).2]; omega
  · rw [e1, e2, (hk 0 (by omega) (by omega)).1, (hk 0 (by omega) (by omega)).2, (hk 1 (by omega) (by omega)).1, (hk 1 (by omega) (by omega)).2]; omega
/-- the start's row -/
def isSt (f : Nat → Nat → Int32) (r : Nat → Int) : Prop := r 0 = (f 6 0).toInt ∧ r 1 = (f 7 0).toInt ∧ r 2 = (f 6 1).toInt ∧ r 3 = (f 7 1).toInt ∧ r 4 = (f 6 0).toInt + (f 6 1).toInt ∧ r 5 = (f 7 0).toInt + (f 7 1).toInt
theorem Fw_0 {f : Nat → Nat → Int32} {Dn Cn : Nat} {mr : Int} {r : Nat → Int} (h : isSt f r) (a b : Int) : (inR r a b ∧ alw f 0 Cn a b) ↔ Fw f Dn Cn mr 0 a b := by
  have g : inR r a b ↔ (((f 6 0).toInt ≤ a ∧ a ≤ (f 7 0).toInt) ∧ ((f 6 1).toInt ≤ b ∧ b ≤ (f 7 1).toInt)) := by unfold isSt at h; unfold inR; omega
  rw [g]; exact Iff.rfl
theorem inR_cg {r q : Nat → Int} (h : eq6 r q) (a b : Int) : inR r a b ↔ inR q a b := by unfold eq6 at h; unfold inR; omega
theorem tgt_cg {r q : Nat → Int} (h : eq6 r q) (hq : tgt q) : tgt r := by unfold eq6 at h; unfold tgt ok6 at *; omega
theorem Fw_1 {f : Nat → Nat → Int32} {Tn Dn Cn t : Nat} {mr : Int} (hI : Inv f Tn Dn Cn) (ht : t < Tn) (h0 : 0 ≤ mr) (h5 : mr ≤ 5) {x c z : Nat → Int} (hx : Tt x (Fw f Dn Cn mr t)) (hc : eq6 c (crow (mvs f t mr (-1) Dn))) (hz : sm6 z x c) (a b : Int) : (inR z a b ∧ alw f (t + 1) Cn a b) ↔ Fw f Dn Cn mr (t + 1) a b := by
  have hct := (crow_bd (but := -1) hI ht h0 h5 Dn (Nat.le_refl _)).1
  have g := sum_ex hx.1 (tgt_cg hc hct) hz a b
  show _ ↔ (∃ a' b', Fw f Dn Cn mr t a' b' ∧ inR (crow (mvs f t mr (-1) Dn)) (a - a') (b - b')) ∧ _
  rw [g]
  constructor
  · rintro ⟨⟨a', b', h1, h2⟩, h3⟩
    exact ⟨⟨a', b', (hx.2 _ _).mp h1, (inR_cg hc _ _).mp h2⟩, h3⟩
  · rintro ⟨⟨a', b', h1, h2⟩, h3⟩
    exact ⟨⟨a', b', (hx.2 _ _).mpr h1, (inR_cg hc _ _).mpr h2⟩, h3⟩
theorem bh_up {x c z q : Nat → Int} {P : Int → Int → Prop} {B : Int} (hx : bh x B) (hc : bd c 360) (hz : sm6 z x c) (hq : Tt q P) (hP : ∀ a b, P a b → inR z a b ∧ 0 ≤ a ∧ 0 ≤ b) : bh q (B + 360) :=
  Tt_bh hq hP (by unfold bh at hx; unfold bd at hc; unfold sm6 at hz; omega)
/-- what looking ahead tells: all rows, or the first time at which nothing is left -/
def LA (f : Nat → Nat → Int32) (Tn Dn Cn : Nat) (mr r : Int) (R : Nat → Nat → Int) : Prop :=
  (r = -1 ∧ ∀ j, j ≤ Tn → Tt (R j) (Fw f Dn Cn mr j) ∧ bh (R j) 50000) ∨ (∃ t : Nat, t ≤ Tn ∧ r = (t : Int) ∧ (∀ a b, ¬ Fw f Dn Cn mr t a b) ∧ ∀ j, j < t → ∃ a b, Fw f Dn Cn mr j a b)
theorem LA_uniq {f : Nat → Nat → Int32} {Tn Dn Cn : Nat} {mr r r' : Int} {R R' : Nat → Nat → Int} (h : LA f Tn Dn Cn mr r R) (h' : LA f Tn Dn Cn mr r' R') : r = r' := by
  rcases h with ⟨h1, h2⟩ | ⟨t, h1, h2, h3, h4⟩
  · rcases h' with ⟨g1, g2⟩ | ⟨t', g1, g2, g3, g4⟩
    · rw [h1, g1]
    · obtain ⟨a, b, q⟩ := (h2 t' g1).1.some
      exact absurd q (g3 a b)
  · rcases h' with ⟨g1, g2⟩ | ⟨t', g1, g2, g3, g4⟩
    · obtain ⟨a, b, q⟩ := (g2 t h1).1.some
      exact absurd q (h3 a b)
    · rcases Nat.lt_trichotomy t t' with q | q | q
      · obtain ⟨a, b, z⟩ := g4 t q
        exact absurd z (h3 a b)
      · rw [h2, g2, q]
      · obtain ⟨a, b, z⟩ := h4 t' q
        exact absurd z (g3 a b)
theorem Trv_Fw {f : Nat → Nat → Int32} {Tn Dn Cn n : Nat} {a b : Int} (h : Trv f Tn Dn Cn n a b) : Fw f Dn Cn 0 (Tn - n) a b := by
  cases n with
  | zero => exact h
  | succ n => exact h.1
def dfr (y c : Nat → Int) : Nat → Int := fun i => match i with | 0 => y 0 - c 1 | 1 => y 1 - c 0 | 2 => y 2 - c 3 | 3 => y 3 - c 2 | 4 => y 4 - c 5 | _ => y 5 - c 4
theorem cd6_in {z x y c : Nat → Int} (hz : cd6 z x y c) (a b : Int) : inR z a b ↔ inR x a b ∧ inR (dfr y c) a b := by
  show _ ↔ _ ∧ (y 0 - c 1 ≤ a ∧ a ≤ y 1 - c 0 ∧ y 2 - c 3 ≤ b ∧ b ≤ y 3 - c 2 ∧ y 4 - c 5 ≤ a + b ∧ a + b ≤ y 5 - c 4)
  obtain ⟨h0, h1, h2, h3, h4, h5⟩ := hz
  unfold inR
  rw [h0, h1, h2, h3, h4, h5]
  omega
/-- one time back -/
theorem Trv_1 {f : Nat → Nat → Int32} {Tn Dn Cn k : Nat} (hI : Inv f Tn Dn Cn) (hk : k + 1 ≤ Tn) {x y c z q : Nat → Int} (hx : Tt x (Fw f Dn Cn 0 k)) (hy : Tt y (Trv f Tn Dn Cn (Tn - (k + 1)))) (hc : eq6 c (crow (mvs f k 0 (-1) Dn))) (hz : cd6 z x y c) (hq : isTg q z) : Tt q (Trv f Tn Dn Cn (Tn - k)) := by
  have hct := tgt_cg hc (crow_bd (mr := 0) (but := -1) hI (show k < Tn by omega) (by omega) (by omega) Dn (Nat.le_refl _)).1
  have e : Tn - k = (Tn - (k + 1)) + 1 := by omega
  have e2 : Tn - (Tn - (k + 1) + 1) = k := by omega
  have hs : ∀ a b, inR z a b ↔ Trv f Tn Dn Cn (Tn - k) a b := by
    intro a b
    rw [cd6_in hz a b, dif_ex (z := dfr y c) hy.1 hct ⟨rfl, rfl, rfl, rfl, rfl, rfl⟩ a b, e]
    show _ ↔ Fw f Dn Cn 0 (Tn - (Tn - (k + 1) + 1)) a b ∧ ∃ a' b', inR (crow (mvs f (Tn - (Tn - (k + 1) + 1)) 0 (-1) Dn)) a' b' ∧ Trv f Tn Dn Cn (Tn - (k + 1)) (a + a') (b + b')
    rw [e2, hx.2 a b]
    constructor
    · rintro ⟨h1, a', b', h2, h3⟩
      exact ⟨h1, a', b', (inR_cg hc _ _).mp h2, (hy.2 _ _).mp h3⟩
    · rintro ⟨h1, a', b', h2, h3⟩
      exact ⟨h1, a', b', (inR_cg hc _ _).mpr h2, (hy.2 _ _).mpr h3⟩
  obtain ⟨a, b, hab⟩ := hy.some
  have hF := Trv_Fw hab
  have e3 : Tn - (Tn - (k + 1)) = k + 1 := by omega
  rw [e3] at hF
  obtain ⟨⟨a', b', h1, h2⟩, -⟩ := hF
  have hp : Trv f Tn Dn Cn (Tn - k) a' b' := by
    rw [e]
    refine ⟨by rw [e2]; exact h1, a - a', b - b', by rw [e2]; exact h2, ?_⟩
    have g1 : a' + (a - a') = a := by omega
    have g2 : b' + (b - b') = b := by omega
    rw [g1, g2]; exact hab
  have hok : ok6 q := in_ok ((tg_same hq a' b').mpr ((hs a' b').mpr hp))
  exact ⟨tg_tgt hq hok, fun a b => (tg_same hq a b).trans (hs a b)⟩
theorem cd6_bd {z x y c : Nat → Int} {B : Int} (hz : cd6 z x y c) (hx : bd x B) (hy : bd y B) (hc : bd c B) : bd z (2 * B) := by
  obtain ⟨h0, h1, h2, h3, h4, h5⟩ := hz
  unfold bd at *
  refine ⟨?_, ?_, ?_, ?_, ?_, ?_⟩ <;> omega
/-- THROUGH, least and most, out of the row behind, the row ahead, the other doors' change -/
def thL (kd nl : Int) (y x c : Nat → Int) : Int := if kd = 0 then max nl (max (y 0 - x 1 - c 1) (y 4 - x 5 - c 5)) else if kd = 1 then max nl (max (y 2 - x 3 - c 3) (y 4 - x 5 - c 5)) else max nl (max (y 2 - x 3 - c 3) (-(y 1 - x 0 - c 0)))
def thH (kd nh : Int) (y x c : Nat → Int) : Int := if kd = 0 then min nh (min (y 1 - x 0 - c 0) (y 5 - x 4 - c 4)) else if kd = 1 then min nh (min (y 3 - x 2 - c 2) (y 5 - x 4 - c 4)) else min nh (min (y 3 - x 2 - c 2) (-(y 0 - x 1 - c 1)))
end
section
set_option maxHeartbeats 4000000 in
set_option maxRecDepth 100000 in
theorem kX1_keepAllowed (l : Launch) (D : va_G) (cI : ClassId) (ad : Nat → Nat) (f : Nat → Nat → Int32) (lo : Nat → Int32) (hi : Nat → Int32) (T : Int32) (Dv : Int32) (C : Int32) (Tn : Nat) (Dn : Nat) (Cn : Nat) (p1 : Int32) (t : Nat) (hT : T.toInt = (Tn : Int)) (hDv : Dv.toInt = (Dn : Int)) (hC : C.toInt = (Cn : Int)) (hI : Inv f Tn Dn Cn) (ht : p1.toInt = (t : Int)) (htn : t ≤ 60) (hbt : bd (rwX lo hi t) 1000000) : MI l yX1_keepAllowed wsX1_keepAllowed ({ frames := 4, cells := 0, slots := 0, locals := 92 } : Room) D [(cI, .int)] [.ref (ad 0), .int p1] (WX cI ad f lo hi T Dv C) (fun u : (Nat → Int32) × (Nat → Int32) => (WX cI ad f u.1 u.2 T Dv C)) (fun (r : Int32) (u : (Nat → Int32) × (Nat → Int32)) => ((r.toInt = 1 ∧ Tt (rwX u.1 u.2 t) (fun a b => inR (rwX lo hi t) a b ∧ alw f t Cn a b)) ∨ (r.toInt = 0 ∧ ∀ a b, ¬ (inR (rwX lo hi t) a b ∧ alw f t Cn a b))) ∧ (∀ j, (j < 3 * t ∨ 3 * t + 3 ≤ j) → u.1 j = lo j ∧ u.2 j = hi j)) := by
  refine c_ent (cc := cX1_keepAllowed) (maxL := 3) (ret := (some .boolean)) (Qc := fun A => va_Qi (fun (r : Int32) (u : (Nat → Int32) × (Nat → Int32)) => ((r.toInt = 1 ∧ Tt (rwX u.1 u.2 t) (fun a b => inR (rwX lo hi t) a b ∧ alw f t Cn a b)) ∨ (r.toInt = 0 ∧ ∀ a b, ¬ (inR (rwX lo hi t) a b ∧ alw f t Cn a b))) ∧ (∀ j, (j < 3 * t ∨ 3 * t + 3 ≤ j) → u.1 j = lo j ∧ u.2 j = hi j)) (cB D [(cI, .int)] A (fun u : (Nat → Int32) × (Nat → Int32) => (WX cI ad f u.1 u.2 T Dv C))) A) (by decide) rfl (Nat.le_of_ble_eq_true rfl) ?_
  intro p e s m below meth c A ls hx hb hr hlocks hts hown hml hK hP hD hA hl
  have hS : va_S A s.heap s.heap [] := va_S.rf
  have hl : lv_has ls 3 [(0, .ref (ad 0)), (1, .int p1)] := hl
  have hP : va_P D vwCl (WX cI ad f lo hi T Dv C) s.heap := hP
  have fl34 := hts (.fieldLink RX1 34 "DoorBench" "checkTime" "[I") (by decide +kernel)
  have fl37 := hts (.fieldLink RX1 37 "DoorBench" "checkWhat" "[I") (by decide +kernel)
  have fl40 := hts (.fieldLink RX1 40 "DoorBench" "checkLow" "[I") (by decide +kernel)
  have fl43 := hts (.fieldLink RX1 43 "DoorBench" "checkHigh" "[I") (by decide +kernel)
  have fl49 := hts (.fieldLink RX1 49 "DoorBench" "spans" "LDoorBench$Spans;") (by decide +kernel)
  have fl86 := hts (.fieldLink RX1 86 "DoorBench" "checks" "I") (by decide +kernel)
  have inX1 : ∀ w ∈ wsX10, w ∈ wsX1_keepAllowed := by decide +kernel
  obtain ⟨hI0, hId, hIr, hIs, hIc⟩ := id hI
  refine lv_aload_n hx hb dX1_keepAllowed_0 rfl (lv_at hl 0 rfl) ?_
  refine va_get (D := D) (ci := 1) (v := .ref (ad 13)) (C := RX1) (T := TX1) (N := 16) hx hb hts inX1 hown hK hP 0 rfl rfl 12 (by decide) fl49 (fun _ h9 => h9) rfl dX1_keepAllowed_1 ?_
  refine lv_iload_n hx hb dX1_keepAllowed_4 rfl (lv_at hl 1 rfl) ?_
  refine c_iconst hx hb dX1_keepAllowed_5 (by decide) (fun v5 i5 => ?_)
  refine c_iconst hx hb dX1_keepAllowed_6 (by decide) (fun v6 i6 => ?_)
  refine c_ldc (n := 1000000) hx hb hown (hts (.constant RX1 188 (1000000)) (by decide +kernel)) dX1_keepAllowed_7 (by decide) (fun v7 i7 => ?_)
  refine c_cvv (As := [.int p1, .int v5, .int v6, .int v7]) (ci := 0) (q0 := 0) (wr := [((ad 0), .inr (1, [.ref (ad 1), .ref (ad 2), .ref (ad 3), .ref (ad 4), .ref (ad 5), .ref (ad 6), .ref (ad 7), .ref (ad 8), .ref (ad 9), .ref (ad 10), .ref (ad 11), .ref (ad 12), .ref (ad 13), .int T, .int Dv, .int C])), ((ad 1), .inl (cI, 6, .inl (f 0))), ((ad 2), .inl (cI, 6, .inl (f 1))), ((ad 3), .inl (cI, 6, .inl (f 2))), ((ad 4), .inl (cI, 6, .inl (f 3))), ((ad 5), .inl (cI, 360, .inl (f 4))), ((ad 6), .inl (cI, 360, .inl (f 5))), ((ad 7), .inl (cI, 2, .inl (f 6))), ((ad 8), .inl (cI, 2, .inl (f 7))), ((ad 9), .inl (cI, 20, .inl (f 8))), ((ad 10), .inl (cI, 20, .inl (f 9))), ((ad 11), .inl (cI, 20, .inl (f 10))), ((ad 12), .inl (cI, 20, .inl (f 11)))]) (wF := (fun uZ => (WX cI ad f (upd lo (3 * (t) + (0)) uZ.1) (upd hi (3 * (t) + (0)) uZ.2) T Dv C))) (kX0_cut l D cI ad lo hi p1 v5 v6 v7 (t) (0) (by omega) (by omega) (by omega) (by omega)) ⟨hx, hb, hml, hown, hts⟩ (cwV 4 hts gX1_keepAllowed_X0_cut rfl rfl rfl (by decide +kernel) ⟨Nat.le_of_ble_eq_true rfl, Nat.le_of_ble_eq_true rfl⟩) hK hP hD hS hA [13, 14, 15] [0, 1, 2, 3, 4, 5, 6, 7, 8, 9, 10, 11, 12] [0, 1, 2, 3, 4, 5, 6, 7, 8, 9, 10, 11, 12, 13, 14, 15] rfl (by decide) rfl (by decide) (by decide) (by decide) (fun _ => rfl) rfl rfl rfl rfl hl.1 rfl (Nat.le_of_ble_eq_true rfl) dX1_keepAllowed_9 ⟨Nat.zero_le _, Nat.zero_le _⟩ (fun u9 H locs q9 hP hD hS => ?_)
  try dsimp only at q9
  have hP : va_P D vwCl (WX cI ad f (upd lo (3 * (t) + (0)) u9.1) (upd hi (3 * (t) + (0)) u9.2) T Dv C) H := hP
  have hD : va_D A (WX cI ad f (upd lo (3 * (t) + (0)) u9.1) (upd hi (3 * (t) + (0)) u9.2) T Dv C) := hD
  refine lv_aload_n hx hb dX1_keepAllowed_12 rfl (lv_at hl 0 rfl) ?_
  refine va_get (D := D) (ci := 1) (v := .ref (ad 13)) (C := RX1) (T := TX1) (N := 16) hx hb hts inX1 hown hK hP 0 rfl rfl 12 (by decide) fl49 (fun _ h9 => h9) rfl dX1_keepAllowed_13 ?_
  refine lv_iload_n hx hb dX1_keepAllowed_16 rfl (lv_at hl 1 rfl) ?_
  refine c_iconst hx hb dX1_keepAllowed_17 (by decide) (fun v17 i17 => ?_)
  refine c_iconst hx hb dX1_keepAllowed_18 (by decide) (fun v18 i18 => ?_)
  refine c_ldc (n := 1000000) hx hb hown (hts (.constant RX1 188 (1000000)) (by decide +kernel)) dX1_keepAllowed_19 (by decide) (fun v19 i19 => ?_)
  refine c_cvv (As := [.int p1, .int v17, .int v18, .int v19]) (ci := 0) (q0 := 0) (wr := [((ad 0), .inr (1, [.ref (ad 1), .ref (ad 2), .ref (ad 3), .ref (ad 4), .ref (ad 5), .ref (ad 6), .ref (ad 7), .ref (ad 8), .ref (ad 9), .ref (ad 10), .ref (ad 11), .ref (ad 12), .ref (ad 13), .int T, .int Dv, .int C])), ((ad 1), .inl (cI, 6, .inl (f 0))), ((ad 2), .inl (cI, 6, .inl (f 1))), ((ad 3), .inl (cI, 6, .inl (f 2))), ((ad 4), .inl (cI, 6, .inl (f 3))), ((ad 5), .inl (cI, 360, .inl (f 4))), ((ad 6), .inl (cI, 360, .inl (f 5))), ((ad 7), .inl (cI, 2, .inl (f 6))), ((ad 8), .inl (cI, 2, .inl (f 7))), ((ad 9), .inl (cI, 20, .inl (f 8))), ((ad 10), .inl (cI, 20, .inl (f 9))), ((ad 11), .inl (cI, 20, .inl (f 10))), ((ad 12), .inl (cI, 20, .inl (f 11)))]) (wF := (fun uZ => (WX cI ad f (upd (upd lo (3 * (t) + (0)) u9.1) (3 * (t) + (1)) uZ.1) (upd (upd hi (3 * (t) + (0)) u9.2) (3 * (t) + (1)) uZ.2) T Dv C))) (kX0_cut l D cI ad (upd lo (3 * (t) + (0)) u9.1) (upd hi (3 * (t) + (0)) u9.2) p1 v17 v18 v19 (t) (1) (by omega) (by omega) (by omega) (by omega)) ⟨hx, hb, hml, hown, hts⟩ (cwV 4 hts gX1_keepAllowed_X0_cut rfl rfl rfl (by decide +kernel) ⟨Nat.le_of_ble_eq_true rfl, Nat.le_of_ble_eq_true rfl⟩) hK hP hD hS hA [13, 14, 15] [0, 1, 2, 3, 4, 5, 6, 7, 8, 9, 10, 11, 12] [0, 1, 2, 3, 4, 5, 6, 7, 8, 9, 10, 11, 12, 13, 14, 15] rfl (by decide) rfl (by decide) (by decide) (by decide) (fun _ => rfl) rfl rfl rfl rfl hl.1 rfl (Nat.le_of_ble_eq_true rfl) dX1_keepAllowed_21 ⟨Nat.zero_le _, Nat.zero_le _⟩ (fun u21 H locs q21 hP hD hS => ?_)
  try dsimp only at q21
  have hP : va_P D vwCl (WX cI ad f (upd (upd lo (3 * (t) + (0)) u9.1) (3 * (t) + (1)) u21.1) (upd (upd hi (3 * (t) + (0)) u9.2) (3 * (t) + (1)) u21.2) T Dv C) H := hP
  have hD : va_D A (WX cI ad f (upd (upd lo (3 * (t) + (0)) u9.1) (3 * (t) + (1)) u21.1) (upd (upd hi (3 * (t) + (0)) u9.2) (3 * (t) + (1)) u21.2) T Dv C) := hD
  have B0 := cut_bd (l := v6.toInt) (h := v7.toInt) (by omega) q9.1 q9.2 hbt (by omega) (by omega)
  have N0 := cut_in (l := v6.toInt) (h := v7.toInt) (by omega) q9.1 q9.2
  have B1 := cut_bd (l := v18.toInt) (h := v19.toInt) (by omega) q21.1 q21.2 B0 (by omega) (by omega)
  have N1 := cut_in (l := v18.toInt) (h := v19.toInt) (by omega) q21.1 q21.2
  have hin0 : ∀ a b, inR (rwX (upd (upd lo (3 * (t) + (0)) u9.1) (3 * (t) + (1)) u21.1) (upd (upd hi (3 * (t) + (0)) u9.2) (3 * (t) + (1)) u21.2) t) a b ↔ inR (rwX lo hi t) a b ∧ alw f t 0 a b := by
    intro a b
    rw [N1 a b, N0 a b]
    show _ ↔ _ ∧ (0 ≤ a ∧ 0 ≤ b)
    obtain ⟨z0, z1, z2, z3, z4, z5⟩ := id hbt
    unfold inR; omega
  have hfr0 : (∀ j, (j < 3 * t ∨ 3 * t + 3 ≤ j) → (upd (upd lo (3 * (t) + (0)) u9.1) (3 * (t) + (1)) u21.1) j = lo j ∧ (upd (upd hi (3 * (t) + (0)) u9.2) (3 * (t) + (1)) u21.2) j = hi j) := fun j hj => ⟨(pk_un (by omega)).trans (pk_un (by omega)), (pk_un (by omega)).trans (pk_un (by omega))⟩
  refine c_iconst hx hb dX1_keepAllowed_24 (by decide) (fun v24 i24 => ?_)
  refine lv_istore_n (lv' := [(2, .int v24), (0, .ref (ad 0)), (1, .int p1)]) hx hb dX1_keepAllowed_25 rfl hl (by decide) rfl (fun ls hl => ?_)
  have HL26 : ∀ (n : Nat) (q : Nat) (x2 : Int32) (lo1 : Nat → Int32) (hi1 : Nat → Int32) (H : Heap) (locs : List Loc) (ls : Array Slot), (x2.toInt = (q : Int)) → (q ≤ Cn) → (Cn + 1 ≤ q + n) → (∀ a b, inR (rwX lo1 hi1 t) a b ↔ inR (rwX lo hi t) a b ∧ alw f t q a b) → (bd (rwX lo1 hi1 t) 1000000) → ((∀ j, (j < 3 * t ∨ 3 * t + 3 ≤ j) → lo1 j = lo j ∧ hi1 j = hi j)) → va_P D vwCl (WX cI ad f lo1 hi1 T Dv C) H → va_D A (WX cI ad f lo1 hi1 T Dv C) → va_S A s.heap H locs → lv_has ls 3 [(0, .ref (ad 0)), (1, .int p1), (2, .int x2)] → W p l e ({ frames := 4, cells := 0, slots := 0, locals := 92 } : Room) s m [.ref (ad 0), .int p1].toArray below meth c H locs 0 0 (MQ below (va_Qi (fun (r : Int32) (u : (Nat → Int32) × (Nat → Int32)) => ((r.toInt = 1 ∧ Tt (rwX u.1 u.2 t) (fun a b => inR (rwX lo hi t) a b ∧ alw f t Cn a b)) ∨ (r.toInt = 0 ∧ ∀ a b, ¬ (inR (rwX lo hi t) a b ∧ alw f t Cn a b))) ∧ (∀ j, (j < 3 * t ∨ 3 * t + 3 ≤ j) → u.1 j = lo j ∧ u.2 j = hi j)) (cB D [(cI, .int)] A (fun u : (Nat → Int32) × (Nat → Int32) => (WX cI ad f u.1 u.2 T Dv C))) A) [.ref (ad 0), .int p1].toArray s 0 0 A) (F0 m 26 ls []) := by
    intro n
    induction n with
    | zero => intro q x2 lo1 hi1 H locs ls hx2 hq hms hin hb1 hfr; exact absurd hms (by omega)
    | succ n ih26 =>
      intro q x2 lo1 hi1 H locs ls hx2 hq hms hin hb1 hfr hP hD hS hl
      refine lv_iload_n hx hb dX1_keepAllowed_26 rfl (lv_at hl 2 rfl) ?_
      refine lv_aload_n hx hb dX1_keepAllowed_27 rfl (lv_at hl 0 rfl) ?_
      refine va_get (D := D) (ci := 1) (v := .int C) (C := RX1) (T := TX1) (N := 16) hx hb hts inX1 hown hK hP 0 rfl rfl 15 (by decide) fl86 (fun _ h9 => h9) rfl dX1_keepAllowed_28 ?_
      refine c_icmp_ge (tgt := 76) hx hb dX1_keepAllowed_31 (by decide) (fun c31 => ?_) (fun c31 => ?_)
      · skip
        refine lv_aload_n hx hb dX1_keepAllowed_76 rfl (lv_at hl 0 rfl) ?_
        refine va_get (D := D) (ci := 1) (v := .ref (ad 13)) (C := RX1) (T := TX1) (N := 16) hx hb hts inX1 hown hK hP 0 rfl rfl 12 (by decide) fl49 (fun _ h9 => h9) rfl dX1_keepAllowed_77 ?_
        refine lv_iload_n hx hb dX1_keepAllowed_80 rfl (lv_at hl 1 rfl) ?_
        refine c_cvi (As := [.int p1]) (ci := 0) (q0 := 0) (wr := [((ad 0), .inr (1, [.ref (ad 1), .ref (ad 2), .ref (ad 3), .ref (ad 4), .ref (ad 5), .ref (ad 6), .ref (ad 7), .ref (ad 8), .ref (ad 9), .ref (ad 10), .ref (ad 11), .ref (ad 12), .ref (ad 13), .int T, .int Dv, .int C])), ((ad 1), .inl (cI, 6, .inl (f 0))), ((ad 2), .inl (cI, 6, .inl (f 1))), ((ad 3), .inl (cI, 6, .inl (f 2))), ((ad 4), .inl (cI, 6, .inl (f 3))), ((ad 5), .inl (cI, 360, .inl (f 4))), ((ad 6), .inl (cI, 360, .inl (f 5))), ((ad 7), .inl (cI, 2, .inl (f 6))), ((ad 8), .inl (cI, 2, .inl (f 7))), ((ad 9), .inl (cI, 20, .inl (f 8))), ((ad 10), .inl (cI, 20, .inl (f 9))), ((ad 11), .inl (cI, 20, .inl (f 10))), ((ad 12), .inl (cI, 20, .inl (f 11)))]) (wF := (fun uZ => (WX cI ad f uZ.1 uZ.2 T Dv C))) (kX0_tighten l D cI ad lo1 hi1 p1 (t) (by omega) (by omega) (by obtain ⟨z0, z1, z2, z3, z4, z5⟩ := id hb1; unfold bd; omega)) ⟨hx, hb, hml, hown, hts⟩ (cwV 1 hts gX1_keepAllowed_X0_tighten rfl rfl rfl (by decide +kernel) ⟨Nat.le_of_ble_eq_true rfl, Nat.le_of_ble_eq_true rfl⟩) hK hP hD hS hA [13, 14, 15] [0, 1, 2, 3, 4, 5, 6, 7, 8, 9, 10, 11, 12] [0, 1, 2, 3, 4, 5, 6, 7, 8, 9, 10, 11, 12, 13, 14, 15] rfl (by decide) rfl (by decide) (by decide) (by decide) (fun _ => rfl) rfl rfl rfl rfl hl.1 rfl (Nat.le_of_ble_eq_true rfl) dX1_keepAllowed_81 ⟨Nat.zero_le _, Nat.zero_le _⟩ (fun r81 u81 H locs q81 hP hD hS => ?_)
        try dsimp only at q81
        have hP : va_P D vwCl (WX cI ad f u81.1 u81.2 T Dv C) H := hP
        have hD : va_D A (WX cI ad f u81.1 u81.2 T Dv C) := hD
        exact c_rz (u81.1, u81.2) hx hb hr hlocks hK hP hD hS dX1_keepAllowed_84 (by rcases q81.2.2 with ⟨z, -⟩ | ⟨z, -⟩ <;> omega) (by
                obtain ⟨t1, t2, t3⟩ := q81
                have hqq : q = Cn := by omega
                subst hqq
                refine ⟨?_, fun j hj => ⟨(t2 j hj).1.trans (hfr j hj).1, (t2 j hj).2.trans (hfr j hj).2⟩⟩
                rcases t3 with ⟨z1, z2⟩ | ⟨z1, z2⟩
                · exact Or.inl ⟨z1, tg_tgt t1 z2, fun a b => (tg_same t1 a b).trans (hin a b)⟩
                · exact Or.inr ⟨z1, fun a b h => z2 (in_ok ((tg_same t1 a b).mpr ((hin a b).mpr h)))⟩)
      · skip
        refine lv_aload_n hx hb dX1_keepAllowed_34 rfl (lv_at hl 0 rfl) ?_
        refine va_get (D := D) (ci := 1) (v := .ref (ad 9)) (C := RX1) (T := TX1) (N := 16) hx hb hts inX1 hown hK hP 0 rfl rfl 8 (by decide) fl34 (fun _ h9 => h9) rfl dX1_keepAllowed_35 ?_
        refine lv_iload_n hx hb dX1_keepAllowed_38 rfl (lv_at hl 2 rfl) ?_
        refine c_iald hx hb hK hP 9 0 rfl rfl (q) (by omega) (by omega) dX1_keepAllowed_39 (fun v39 e39 => ?_)
        have i39 : v39.toInt = ((f 8) (q)).toInt := by rw [e39]
        refine lv_iload_n hx hb dX1_keepAllowed_40 rfl (lv_at hl 1 rfl) ?_
        refine c_icmp_ne (tgt := 70) hx hb dX1_keepAllowed_41 (by decide) (fun c41 => ?_) (fun c41 => ?_)
        · skip
          refine c_iinc (k := 2) hx hb (fun v70 => [(2, .int v70), (0, .ref (ad 0)), (1, .int p1)]) dX1_keepAllowed_70 hl rfl (by decide) (by omega) (by decide) (fun _ => rfl) (fun v70 ls i70 hl => ?_)
          have hl : lv_has ls 3 [(2, .int v70), (0, .ref (ad 0)), (1, .int p1)] := hl
          refine lv_goto (tgt := 26) hx hb dX1_keepAllowed_73 (by decide) ?_
          exact ih26 (q + 1) v70 lo1 hi1 _ _ _ (by omega) (by omega) (by omega) (fun a b => by
                        rw [hin a b]
                        constructor
                        · rintro ⟨h1, h2⟩; exact ⟨h1, h2, fun h => absurd h (by omega)⟩
                        · rintro ⟨h1, h2, h3⟩; exact ⟨h1, h2⟩) hb1 hfr hP hD hS (lv_sub hl [1, 2, 0] rfl)
        · skip
          have n1 := hIc q (by omega)
          refine lv_aload_n hx hb dX1_keepAllowed_44 rfl (lv_at hl 0 rfl) ?_
          refine va_get (D := D) (ci := 1) (v := .ref (ad 13)) (C := RX1) (T := TX1) (N := 16) hx hb hts inX1 hown hK hP 0 rfl rfl 12 (by decide) fl49 (fun _ h9 => h9) rfl dX1_keepAllowed_45 ?_
          refine lv_iload_n hx hb dX1_keepAllowed_48 rfl (lv_at hl 1 rfl) ?_
          refine lv_aload_n hx hb dX1_keepAllowed_49 rfl (lv_at hl 0 rfl) ?_
          refine va_get (D := D) (ci := 1) (v := .ref (ad 10)) (C := RX1) (T := TX1) (N := 16) hx hb hts inX1 hown hK hP 0 rfl rfl 9 (by decide) fl37 (fun _ h9 => h9) rfl dX1_keepAllowed_50 ?_
          refine lv_iload_n hx hb dX1_keepAllowed_53 rfl (lv_at hl 2 rfl) ?_
          refine c_iald hx hb hK hP 10 0 rfl rfl (q) (by omega) (by omega) dX1_keepAllowed_54 (fun v54 e54 => ?_)
          have i54 : v54.toInt = ((f 9) (q)).toInt := by rw [e54]
          skip
          refine lv_aload_n hx hb dX1_keepAllowed_55 rfl (lv_at hl 0 rfl) ?_
          refine va_get (D := D) (ci := 1) (v := .ref (ad 11)) (C := RX1) (T := TX1) (N := 16) hx hb hts inX1 hown hK hP 0 rfl rfl 10 (by decide) fl40 (fun _ h9 => h9) rfl dX1_keepAllowed_56 ?_
          refine lv_iload_n hx hb dX1_keepAllowed_59 rfl (lv_at hl 2 rfl) ?_
          refine c_iald hx hb hK hP 11 0 rfl rfl (q) (by omega) (by omega) dX1_keepAllowed_60 (fun v60 e60 => ?_)
          have i60 : v60.toInt = ((f 10) (q)).toInt := by rw [e60]
          refine lv_aload_n hx hb dX1_keepAllowed_61 rfl (lv_at hl 0 rfl) ?_
          refine va_get (D := D) (ci := 1) (v := .ref (ad 12)) (C := RX1) (T := TX1) (N := 16) hx hb hts inX1 hown hK hP 0 rfl rfl 11 (by decide) fl43 (fun _ h9 => h9) rfl dX1_keepAllowed_62 ?_
          refine lv_iload_n hx hb dX1_keepAllowed_65 rfl (lv_at hl 2 rfl) ?_
          refine c_iald hx hb hK hP 12 0 rfl rfl (q) (by omega) (by omega) dX1_keepAllowed_66 (fun v66 e66 => ?_)
          have i66 : v66.toInt = ((f 11) (q)).toInt := by rw [e66]
          refine c_cvv (As := [.int p1, .int v54, .int v60, .int v66]) (ci := 0) (q0 := 0) (wr := [((ad 0), .inr (1, [.ref (ad 1), .ref (ad 2), .ref (ad 3), .ref (ad 4), .ref (ad 5), .ref (ad 6), .ref (ad 7), .ref (ad 8), .ref (ad 9), .ref (ad 10), .ref (ad 11), .ref (ad 12), .ref (ad 13), .int T, .int Dv, .int C])), ((ad 1), .inl (cI, 6, .inl (f 0))), ((ad 2), .inl (cI, 6, .inl (f 1))), ((ad 3), .inl (cI, 6, .inl (f 2))), ((ad 4), .inl (cI, 6, .inl (f 3))), ((ad 5), .inl (cI, 360, .inl (f 4))), ((ad 6), .inl (cI, 360, .inl (f 5))), ((ad 7), .inl (cI, 2, .inl (f 6))), ((ad 8), .inl (cI, 2, .inl (f 7))), ((ad 9), .inl (cI, 20, .inl (f 8))), ((ad 10), .inl (cI, 20, .inl (f 9))), ((ad 11), .inl (cI, 20, .inl (f 10))), ((ad 12), .inl (cI, 20, .inl (f 11)))]) (wF := (fun uZ => (WX cI ad f (upd lo1 (3 * (t) + ((f 9 q).toInt.toNat)) uZ.1) (upd hi1 (3 * (t) + ((f 9 q).toInt.toNat)) uZ.2) T Dv C))) (kX0_cut l D cI ad lo1 hi1 p1 v54 v60 v66 (t) ((f 9 q).toInt.toNat) (by omega) (by omega) (by omega) (by omega)) ⟨hx, hb, hml, hown, hts⟩ (cwV 4 hts gX1_keepAllowed_X0_cut rfl rfl rfl (by decide +kernel) ⟨Nat.le_of_ble_eq_true rfl, Nat.le_of_ble_eq_true rfl⟩) hK hP hD hS hA [13, 14, 15] [0, 1, 2, 3, 4, 5, 6, 7, 8, 9, 10, 11, 12] [0, 1, 2, 3, 4, 5, 6, 7, 8, 9, 10, 11, 12, 13, 14, 15] rfl (by decide) rfl (by decide) (by decide) (by decide) (fun _ => rfl) rfl rfl rfl rfl hl.1 rfl (Nat.le_of_ble_eq_true rfl) dX1_keepAllowed_67 ⟨Nat.zero_le _, Nat.zero_le _⟩ (fun u67 H locs q67 hP hD hS => ?_)
          try dsimp only at q67
          have hP : va_P D vwCl (WX cI ad f (upd lo1 (3 * (t) + ((f 9 q).toInt.toNat)) u67.1) (upd hi1 (3 * (t) + ((f 9 q).toInt.toNat)) u67.2) T Dv C) H := hP
          have hD : va_D A (WX cI ad f (upd lo1 (3 * (t) + ((f 9 q).toInt.toNat)) u67.1) (upd hi1 (3 * (t) + ((f 9 q).toInt.toNat)) u67.2) T Dv C) := hD
          refine c_iinc (k := 2) hx hb (fun v70_2 => [(2, .int v70_2), (0, .ref (ad 0)), (1, .int p1)]) dX1_keepAllowed_70 hl rfl (by decide) (by omega) (by decide) (fun _ => rfl) (fun v70_2 ls i70_2 hl => ?_)
          have hl : lv_has ls 3 [(2, .int v70_2), (0, .ref (ad 0)), (1, .int p1)] := hl
          refine lv_goto (tgt := 26) hx hb dX1_keepAllowed_73 (by decide) ?_
          exact ih26 (q + 1) v70_2 (upd lo1 (3 * (t) + ((f 9 q).toInt.toNat)) u67.1) (upd hi1 (3 * (t) + ((f 9 q).toInt.toNat)) u67.2) _ _ _ (by omega) (by omega) (by omega) (fun a b => by
                        rw [cut_in (l := v60.toInt) (h := v66.toInt) (by omega) q67.1 q67.2 a b, hin a b]
                        have hc : (((f 9 q).toInt.toNat = 0 ∧ v60.toInt ≤ a ∧ a ≤ v66.toInt) ∨ ((f 9 q).toInt.toNat = 1 ∧ v60.toInt ≤ b ∧ b ≤ v66.toInt) ∨ ((f 9 q).toInt.toNat = 2 ∧ v60.toInt ≤ a + b ∧ a + b ≤ v66.toInt)) ↔ chk f q a b := by unfold chk; omega
                        rw [hc]
                        constructor
                        · rintro ⟨⟨h1, h2⟩, h3⟩; exact ⟨h1, h2, fun _ => h3⟩
                        · rintro ⟨h1, h2, h3⟩; exact ⟨⟨h1, h2⟩, h3 (by omega)⟩) (cut_bd (l := v60.toInt) (h := v66.toInt) (by omega) q67.1 q67.2 hb1 (by omega) (by omega)) (fun j hj => ⟨(pk_un (by omega)).trans (hfr j hj).1, (pk_un (by omega)).trans (hfr j hj).2⟩) hP hD hS (lv_sub hl [1, 2, 0] rfl)
  exact HL26 (Cn + 1) 0 v24 (upd (upd lo (3 * (t) + (0)) u9.1) (3 * (t) + (1)) u21.1) (upd (upd hi (3 * (t) + (0)) u9.2) (3 * (t) + (1)) u21.2) _ _ _ (by omega) (by omega) (by omega) hin0 B1 hfr0 hP hD hS (lv_sub hl [1, 2, 0] rfl)
set_option maxHeartbeats 4000000 in
set_option maxRecDepth 100000 in
theorem kX1_lookAhead (l : Launch) (D : va_G) (cI : ClassId) (ad : Nat → Nat) (f : Nat → Nat → Int32) (lo : Nat → Int32) (hi : Nat → Int32) (T : Int32) (Dv : Int32) (C : Int32) (Tn : Nat) (Dn : Nat) (Cn : Nat) (p1 : Int32) (hT : T.toInt = (Tn : Int)) (hDv : Dv.toInt = (Dn : Int)) (hC : C.toInt = (Cn : Int)) (hI : Inv f Tn Dn Cn) (hm : 0 ≤ p1.toInt ∧ p1.toInt ≤ 5) : MI l yX1_lookAhead wsX1_lookAhead ({ frames := 5, cells := 0, slots := 0, locals := 114 } : Room) D [(cI, .int)] [.ref (ad 0), .int p1] (WX cI ad f lo hi T Dv C) (fun u : (Nat → Int32) × (Nat → Int32) => (WX cI ad f u.1 u.2 T Dv C)) (fun (r : Int32) (u : (Nat → Int32) × (Nat → Int32)) => LA f Tn Dn Cn p1.toInt r.toInt (fun j => rwX u.1 u.2 j)) := by
  refine c_ent (cc := cX1_lookAhead) (maxL := 3) (ret := (some .int)) (Qc := fun A => va_Qi (fun (r : Int32) (u : (Nat → Int32) × (Nat → Int32)) => LA f Tn Dn Cn p1.toInt r.toInt (fun j => rwX u.1 u.2 j)) (cB D [(cI, .int)] A (fun u : (Nat → Int32) × (Nat → Int32) => (WX cI ad f u.1 u.2 T Dv C))) A) (by decide) rfl (Nat.le_of_ble_eq_true rfl) ?_
  intro p e s m below meth c A ls hx hb hr hlocks hts hown hml hK hP hD hA hl
  have hS : va_S A s.heap s.heap [] := va_S.rf
  have hl : lv_has ls 3 [(0, .ref (ad 0)), (1, .int p1)] := hl
  have hP : va_P D vwCl (WX cI ad f lo hi T Dv C) s.heap := hP
  have fl28 := hts (.fieldLink RX1 28 "DoorBench" "startLow" "[I") (by decide +kernel)
  have fl31 := hts (.fieldLink RX1 31 "DoorBench" "startHigh" "[I") (by decide +kernel)
  have fl49 := hts (.fieldLink RX1 49 "DoorBench" "spans" "LDoorBench$Spans;") (by decide +kernel)
  have fl141 := hts (.fieldLink RX1 141 "DoorBench" "ticks" "I") (by decide +kernel)
  have inX1 : ∀ w ∈ wsX10, w ∈ wsX1_lookAhead := by decide +kernel
  obtain ⟨hI0, hId, hIr, hIs, hIc⟩ := id hI
  have s0 := hIs 0 (by omega)
  have s1 := hIs 1 (by omega)
  refine lv_aload_n hx hb dX1_lookAhead_0 rfl (lv_at hl 0 rfl) ?_
  refine va_get (D := D) (ci := 1) (v := .ref (ad 13)) (C := RX1) (T := TX1) (N := 16) hx hb hts inX1 hown hK hP 0 rfl rfl 12 (by decide) fl49 (fun _ h9 => h9) rfl dX1_lookAhead_1 ?_
  refine c_iconst hx hb dX1_lookAhead_4 (by decide) (fun v4 i4 => ?_)
  refine c_iconst hx hb dX1_lookAhead_5 (by decide) (fun v5 i5 => ?_)
  refine lv_aload_n hx hb dX1_lookAhead_6 rfl (lv_at hl 0 rfl) ?_
  refine va_get (D := D) (ci := 1) (v := .ref (ad 7)) (C := RX1) (T := TX1) (N := 16) hx hb hts inX1 hown hK hP 0 rfl rfl 6 (by decide) fl28 (fun _ h9 => h9) rfl dX1_lookAhead_7 ?_
  refine c_iconst hx hb dX1_lookAhead_10 (by decide) (fun v10 i10 => ?_)
  refine c_iald hx hb hK hP 7 0 rfl rfl (0) (by omega) (by omega) dX1_lookAhead_11 (fun v11 e11 => ?_)
  have i11 : v11.toInt = ((f 6) (0)).toInt := by rw [e11]
  refine lv_aload_n hx hb dX1_lookAhead_12 rfl (lv_at hl 0 rfl) ?_
  refine va_get (D := D) (ci := 1) (v := .ref (ad 8)) (C := RX1) (T := TX1) (N := 16) hx hb hts inX1 hown hK hP 0 rfl rfl 7 (by decide) fl31 (fun _ h9 => h9) rfl dX1_lookAhead_13 ?_
  refine c_iconst hx hb dX1_lookAhead_16 (by decide) (fun v16 i16 => ?_)
  refine c_iald hx hb hK hP 8 0 rfl rfl (0) (by omega) (by omega) dX1_lookAhead_17 (fun v17 e17 => ?_)
  have i17 : v17.toInt = ((f 7) (0)).toInt := by rw [e17]
  refine c_cvv (As := [.int v4, .int v5, .int v11, .int v17]) (ci := 0) (q0 := 0) (wr := [((ad 0), .inr (1, [.ref (ad 1), .ref (ad 2), .ref (ad 3), .ref (ad 4), .ref (ad 5), .ref (ad 6), .ref (ad 7), .ref (ad 8), .ref (ad 9), .ref (ad 10), .ref (ad 11), .ref (ad 12), .ref (ad 13), .int T, .int Dv, .int C])), ((ad 1), .inl (cI, 6, .inl (f 0))), ((ad 2), .inl (cI, 6, .inl (f 1))), ((ad 3), .inl (cI, 6, .inl (f 2))), ((ad 4), .inl (cI, 6, .inl (f 3))), ((ad 5), .inl (cI, 360, .inl (f 4))), ((ad 6), .inl (cI, 360, .inl (f 5))), ((ad 7), .inl (cI, 2, .inl (f 6))), ((ad 8), .inl (cI, 2, .inl (f 7))), ((ad 9), .inl (cI, 20, .inl (f 8))), ((ad 10), .inl (cI, 20, .inl (f 9))), ((ad 11), .inl (cI, 20, .inl (f 10))), ((ad 12), .inl (cI, 20, .inl (f 11)))]) (wF := (fun uZ => (WX cI ad f (upd lo (3 * (0) + (0)) v11) (upd hi (3 * (0) + (0)) v17) T Dv C))) (kX0_put l D cI ad lo hi v4 v5 v11 v17 (0) (0) (by omega) (by omega) (by omega) (by omega)) ⟨hx, hb, hml, hown, hts⟩ (cwV 4 hts gX1_lookAhead_X0_put rfl rfl rfl (by decide +kernel) ⟨Nat.le_of_ble_eq_true rfl, Nat.le_of_ble_eq_true rfl⟩) hK hP hD hS hA [13, 14, 15] [0, 1, 2, 3, 4, 5, 6, 7, 8, 9, 10, 11, 12] [0, 1, 2, 3, 4, 5, 6, 7, 8, 9, 10, 11, 12, 13, 14, 15] rfl (by decide) rfl (by decide) (by decide) (by decide) (fun _ => rfl) rfl rfl rfl rfl hl.1 rfl (Nat.le_of_ble_eq_true rfl) dX1_lookAhead_18 ⟨Nat.zero_le _, Nat.zero_le _⟩ (fun u18 H locs q18 hP hD hS => ?_)
  try dsimp only at q18
  have hP : va_P D vwCl (WX cI ad f (upd lo (3 * (0) + (0)) v11) (upd hi (3 * (0) + (0)) v17) T Dv C) H := hP
  have hD : va_D A (WX cI ad f (upd lo (3 * (0) + (0)) v11) (upd hi (3 * (0) + (0)) v17) T Dv C) := hD
  refine lv_aload_n hx hb dX1_lookAhead_21 rfl (lv_at hl 0 rfl) ?_
  refine va_get (D := D) (ci := 1) (v := .ref (ad 13)) (C := RX1) (T := TX1) (N := 16) hx hb hts inX1 hown hK hP 0 rfl rfl 12 (by decide) fl49 (fun _ h9 => h9) rfl dX1_lookAhead_22 ?_
  refine c_iconst hx hb dX1_lookAhead_25 (by decide) (fun v25 i25 => ?_)
  refine c_iconst hx hb dX1_lookAhead_26 (by decide) (fun v26 i26 => ?_)
  refine lv_aload_n hx hb dX1_lookAhead_27 rfl (lv_at hl 0 rfl) ?_
  refine va_get (D := D) (ci := 1) (v := .ref (ad 7)) (C := RX1) (T := TX1) (N := 16) hx hb hts inX1 hown hK hP 0 rfl rfl 6 (by decide) fl28 (fun _ h9 => h9) rfl dX1_lookAhead_28 ?_
  refine c_iconst hx hb dX1_lookAhead_31 (by decide) (fun v31 i31 => ?_)
  refine c_iald hx hb hK hP 7 0 rfl rfl (1) (by omega) (by omega) dX1_lookAhead_32 (fun v32 e32 => ?_)
  have i32 : v32.toInt = ((f 6) (1)).toInt := by rw [e32]
  refine lv_aload_n hx hb dX1_lookAhead_33 rfl (lv_at hl 0 rfl) ?_
  refine va_get (D := D) (ci := 1) (v := .ref (ad 8)) (C := RX1) (T := TX1) (N := 16) hx hb hts inX1 hown hK hP 0 rfl rfl 7 (by decide) fl31 (fun _ h9 => h9) rfl dX1_lookAhead_34 ?_
  refine c_iconst hx hb dX1_lookAhead_37 (by decide) (fun v37 i37 => ?_)
  refine c_iald hx hb hK hP 8 0 rfl rfl (1) (by omega) (by omega) dX1_lookAhead_38 (fun v38 e38 => ?_)
  have i38 : v38.toInt = ((f 7) (1)).toInt := by rw [e38]
  refine c_cvv (As := [.int v25, .int v26, .int v32, .int v38]) (ci := 0) (q0 := 0) (wr := [((ad 0), .inr (1, [.ref (ad 1), .ref (ad 2), .ref (ad 3), .ref (ad 4), .ref (ad 5), .ref (ad 6), .ref (ad 7), .ref (ad 8), .ref (ad 9), .ref (ad 10), .ref (ad 11), .ref (ad 12), .ref (ad 13), .int T, .int Dv, .int C])), ((ad 1), .inl (cI, 6, .inl (f 0))), ((ad 2), .inl (cI, 6, .inl (f 1))), ((ad 3), .inl (cI, 6, .inl (f 2))), ((ad 4), .inl (cI, 6, .inl (f 3))), ((ad 5), .inl (cI, 360, .inl (f 4))), ((ad 6), .inl (cI, 360, .inl (f 5))), ((ad 7), .inl (cI, 2, .inl (f 6))), ((ad 8), .inl (cI, 2, .inl (f 7))), ((ad 9), .inl (cI, 20, .inl (f 8))), ((ad 10), .inl (cI, 20, .inl (f 9))), ((ad 11), .inl (cI, 20, .inl (f 10))), ((ad 12), .inl (cI, 20, .inl (f 11)))]) (wF := (fun uZ => (WX cI ad f (upd (upd lo (3 * (0) + (0)) v11) (3 * (0) + (1)) v32) (upd (upd hi (3 * (0) + (0)) v17) (3 * (0) + (1)) v38) T Dv C))) (kX0_put l D cI ad (upd lo (3 * (0) + (0)) v11) (upd hi (3 * (0) + (0)) v17) v25 v26 v32 v38 (0) (1) (by omega) (by omega) (by omega) (by omega)) ⟨hx, hb, hml, hown, hts⟩ (cwV 4 hts gX1_lookAhead_X0_put rfl rfl rfl (by decide +kernel) ⟨Nat.le_of_ble_eq_true rfl, Nat.le_of_ble_eq_true rfl⟩) hK hP hD hS hA [13, 14, 15] [0, 1, 2, 3, 4, 5, 6, 7, 8, 9, 10, 11, 12] [0, 1, 2, 3, 4, 5, 6, 7, 8, 9, 10, 11, 12, 13, 14, 15] rfl (by decide) rfl (by decide) (by decide) (by decide) (fun _ => rfl) rfl rfl rfl rfl hl.1 rfl (Nat.le_of_ble_eq_true rfl) dX1_lookAhead_39 ⟨Nat.zero_le _, Nat.zero_le _⟩ (fun u39 H locs q39 hP hD hS => ?_)
  try dsimp only at q39
  have hP : va_P D vwCl (WX cI ad f (upd (upd lo (3 * (0) + (0)) v11) (3 * (0) + (1)) v32) (upd (upd hi (3 * (0) + (0)) v17) (3 * (0) + (1)) v38) T Dv C) H := hP
  have hD : va_D A (WX cI ad f (upd (upd lo (3 * (0) + (0)) v11) (3 * (0) + (1)) v32) (upd (upd hi (3 * (0) + (0)) v17) (3 * (0) + (1)) v38) T Dv C) := hD
  refine lv_aload_n hx hb dX1_lookAhead_42 rfl (lv_at hl 0 rfl) ?_
  refine va_get (D := D) (ci := 1) (v := .ref (ad 13)) (C := RX1) (T := TX1) (N := 16) hx hb hts inX1 hown hK hP 0 rfl rfl 12 (by decide) fl49 (fun _ h9 => h9) rfl dX1_lookAhead_43 ?_
  refine c_iconst hx hb dX1_lookAhead_46 (by decide) (fun v46 i46 => ?_)
  refine c_iconst hx hb dX1_lookAhead_47 (by decide) (fun v47 i47 => ?_)
  refine lv_aload_n hx hb dX1_lookAhead_48 rfl (lv_at hl 0 rfl) ?_
  refine va_get (D := D) (ci := 1) (v := .ref (ad 7)) (C := RX1) (T := TX1) (N := 16) hx hb hts inX1 hown hK hP 0 rfl rfl 6 (by decide) fl28 (fun _ h9 => h9) rfl dX1_lookAhead_49 ?_
  refine c_iconst hx hb dX1_lookAhead_52 (by decide) (fun v52 i52 => ?_)
  refine c_iald hx hb hK hP 7 0 rfl rfl (0) (by omega) (by omega) dX1_lookAhead_53 (fun v53 e53 => ?_)
  have i53 : v53.toInt = ((f 6) (0)).toInt := by rw [e53]
  refine lv_aload_n hx hb dX1_lookAhead_54 rfl (lv_at hl 0 rfl) ?_
  refine va_get (D := D) (ci := 1) (v := .ref (ad 7)) (C := RX1) (T := TX1) (N := 16) hx hb hts inX1 hown hK hP 0 rfl rfl 6 (by decide) fl28 (fun _ h9 => h9) rfl dX1_lookAhead_55 ?_
  refine c_iconst hx hb dX1_lookAhead_58 (by decide) (fun v58 i58 => ?_)
  refine c_iald hx hb hK hP 7 0 rfl rfl (1) (by omega) (by omega) dX1_lookAhead_59 (fun v59 e59 => ?_)
  have i59 : v59.toInt = ((f 6) (1)).toInt := by rw [e59]
  refine c_iadd hx hb dX1_lookAhead_60 (by omega) (fun v60 i60 => ?_)
  refine lv_aload_n hx hb dX1_lookAhead_61 rfl (lv_at hl 0 rfl) ?_
  refine va_get (D := D) (ci := 1) (v := .ref (ad 8)) (C := RX1) (T := TX1) (N := 16) hx hb hts inX1 hown hK hP 0 rfl rfl 7 (by decide) fl31 (fun _ h9 => h9) rfl dX1_lookAhead_62 ?_
  refine c_iconst hx hb dX1_lookAhead_65 (by decide) (fun v65 i65 => ?_)
  refine c_iald hx hb hK hP 8 0 rfl rfl (0) (by omega) (by omega) dX1_lookAhead_66 (fun v66 e66 => ?_)
  have i66 : v66.toInt = ((f 7) (0)).toInt := by rw [e66]
  refine lv_aload_n hx hb dX1_lookAhead_67 rfl (lv_at hl 0 rfl) ?_
  refine va_get (D := D) (ci := 1) (v := .ref (ad 8)) (C := RX1) (T := TX1) (N := 16) hx hb hts inX1 hown hK hP 0 rfl rfl 7 (by decide) fl31 (fun _ h9 => h9) rfl dX1_lookAhead_68 ?_
  refine c_iconst hx hb dX1_lookAhead_71 (by decide) (fun v71 i71 => ?_)
  refine c_iald hx hb hK hP 8 0 rfl rfl (1) (by omega) (by omega) dX1_lookAhead_72 (fun v72 e72 => ?_)
  have i72 : v72.toInt = ((f 7) (1)).toInt := by rw [e72]
  refine c_iadd hx hb dX1_lookAhead_73 (by omega) (fun v73 i73 => ?_)
  refine c_cvv (As := [.int v46, .int v47, .int v60, .int v73]) (ci := 0) (q0 := 0) (wr := [((ad 0), .inr (1, [.ref (ad 1), .ref (ad 2), .ref (ad 3), .ref (ad 4), .ref (ad 5), .ref (ad 6), .ref (ad 7), .ref (ad 8), .ref (ad 9), .ref (ad 10), .ref (ad 11), .ref (ad 12), .ref (ad 13), .int T, .int Dv, .int C])), ((ad 1), .inl (cI, 6, .inl (f 0))), ((ad 2), .inl (cI, 6, .inl (f 1))), ((ad 3), .inl (cI, 6, .inl (f 2))), ((ad 4), .inl (cI, 6, .inl (f 3))), ((ad 5), .inl (cI, 360, .inl (f 4))), ((ad 6), .inl (cI, 360, .inl (f 5))), ((ad 7), .inl (cI, 2, .inl (f 6))), ((ad 8), .inl (cI, 2, .inl (f 7))), ((ad 9), .inl (cI, 20, .inl (f 8))), ((ad 10), .inl (cI, 20, .inl (f 9))), ((ad 11), .inl (cI, 20, .inl (f 10))), ((ad 12), .inl (cI, 20, .inl (f 11)))]) (wF := (fun uZ => (WX cI ad f (upd (upd (upd lo (3 * (0) + (0)) v11) (3 * (0) + (1)) v32) (3 * (0) + (2)) v60) (upd (upd (upd hi (3 * (0) + (0)) v17) (3 * (0) + (1)) v38) (3 * (0) + (2)) v73) T Dv C))) (kX0_put l D cI ad (upd (upd lo (3 * (0) + (0)) v11) (3 * (0) + (1)) v32) (upd (upd hi (3 * (0) + (0)) v17) (3 * (0) + (1)) v38) v46 v47 v60 v73 (0) (2) (by omega) (by omega) (by omega) (by omega)) ⟨hx, hb, hml, hown, hts⟩ (cwV 4 hts gX1_lookAhead_X0_put rfl rfl rfl (by decide +kernel) ⟨Nat.le_of_ble_eq_true rfl, Nat.le_of_ble_eq_true rfl⟩) hK hP hD hS hA [13, 14, 15] [0, 1, 2, 3, 4, 5, 6, 7, 8, 9, 10, 11, 12] [0, 1, 2, 3, 4, 5, 6, 7, 8, 9, 10, 11, 12, 13, 14, 15] rfl (by decide) rfl (by decide) (by decide) (by decide) (fun _ => rfl) rfl rfl rfl rfl hl.1 rfl (Nat.le_of_ble_eq_true rfl) dX1_lookAhead_74 ⟨Nat.zero_le _, Nat.zero_le _⟩ (fun u74 H locs q74 hP hD hS => ?_)
  try dsimp only at q74
  have hP : va_P D vwCl (WX cI ad f (upd (upd (upd lo (3 * (0) + (0)) v11) (3 * (0) + (1)) v32) (3 * (0) + (2)) v60) (upd (upd (upd hi (3 * (0) + (0)) v17) (3 * (0) + (1)) v38) (3 * (0) + (2)) v73) T Dv C) H := hP
  have hD : va_D A (WX cI ad f (upd (upd (upd lo (3 * (0) + (0)) v11) (3 * (0) + (1)) v32) (3 * (0) + (2)) v60) (upd (upd (upd hi (3 * (0) + (0)) v17) (3 * (0) + (1)) v38) (3 * (0) + (2)) v73) T Dv C) := hD
  have U1 := up3 lo 0 v11 v32 v60
  have U2 := up3 hi 0 v17 v38 v73
  obtain ⟨lo0, elo⟩ : ∃ z, z = (upd (upd (upd lo (3 * (0) + (0)) v11) (3 * (0) + (1)) v32) (3 * (0) + (2)) v60) := ⟨_, rfl⟩
  obtain ⟨hi0, ehi⟩ : ∃ z, z = (upd (upd (upd hi (3 * (0) + (0)) v17) (3 * (0) + (1)) v38) (3 * (0) + (2)) v73) := ⟨_, rfl⟩
  rw [← elo, ← ehi] at hP hD
  rw [← elo] at U1
  rw [← ehi] at U2
  have hst : isSt f (rwX lo0 hi0 0) := by
    refine ⟨?_, ?_, ?_, ?_, ?_, ?_⟩
    · show (lo0 (3 * 0 + 0)).toInt = _; rw [U1.1.1, i11]
    · show (hi0 (3 * 0 + 0)).toInt = _; rw [U2.1.1, i17]
    · show (lo0 (3 * 0 + 1)).toInt = _; rw [U1.1.2.1, i32]
    · show (hi0 (3 * 0 + 1)).toInt = _; rw [U2.1.2.1, i38]
    · show (lo0 (3 * 0 + 2)).toInt = _; rw [U1.1.2.2, i60, i53, i59]
    · show (hi0 (3 * 0 + 2)).toInt = _; rw [U2.1.2.2, i73, i66, i72]
  refine c_iconst hx hb dX1_lookAhead_77 (by decide) (fun v77 i77 => ?_)
  refine lv_istore_n (lv' := [(2, .int v77), (0, .ref (ad 0)), (1, .int p1)]) hx hb dX1_lookAhead_78 rfl hl (by decide) rfl (fun ls hl => ?_)
  have HL79 : ∀ (n : Nat) (t : Nat) (x2 : Int32) (lo1 : Nat → Int32) (hi1 : Nat → Int32) (H : Heap) (locs : List Loc) (ls : Array Slot), (x2.toInt = (t : Int)) → (t ≤ Tn + 1) → (Tn + 2 ≤ t + n) → (t = 0 → isSt f (rwX lo1 hi1 0)) → (∀ j, j < t → Tt (rwX lo1 hi1 j) (Fw f Dn Cn p1.toInt j) ∧ bh (rwX lo1 hi1 j) (20000 + 360 * j)) → va_P D vwCl (WX cI ad f lo1 hi1 T Dv C) H → va_D A (WX cI ad f lo1 hi1 T Dv C) → va_S A s.heap H locs → lv_has ls 3 [(0, .ref (ad 0)), (1, .int p1), (2, .int x2)] → W p l e ({ frames := 5, cells := 0, slots := 0, locals := 114 } : Room) s m [.ref (ad 0), .int p1].toArray below meth c H locs 0 0 (MQ below (va_Qi (fun (r : Int32) (u : (Nat → Int32) × (Nat → Int32)) => LA f Tn Dn Cn p1.toInt r.toInt (fun j => rwX u.1 u.2 j)) (cB D [(cI, .int)] A (fun u : (Nat → Int32) × (Nat → Int32) => (WX cI ad f u.1 u.2 T Dv C))) A) [.ref (ad 0), .int p1].toArray s 0 0 A) (F0 m 79 ls []) := by
    intro n
    induction n with
    | zero => intro t x2 lo1 hi1 H locs ls hx2 ht hms hst1 hrows; exact absurd hms (by omega)
    | succ n ih79 =>
      intro t x2 lo1 hi1 H locs ls hx2 ht hms hst1 hrows hP hD hS hl
      refine lv_iload_n hx hb dX1_lookAhead_79 rfl (lv_at hl 2 rfl) ?_
      refine lv_aload_n hx hb dX1_lookAhead_80 rfl (lv_at hl 0 rfl) ?_
      refine va_get (D := D) (ci := 1) (v := .int T) (C := RX1) (T := TX1) (N := 16) hx hb hts inX1 hown hK hP 0 rfl rfl 13 (by decide) fl141 (fun _ h9 => h9) rfl dX1_lookAhead_81 ?_
      refine c_icmp_gt (tgt := 129) hx hb dX1_lookAhead_84 (by decide) (fun c84 => ?_) (fun c84 => ?_)
      · skip
        refine c_iconst hx hb dX1_lookAhead_129 (by decide) (fun v129 i129 => ?_)
        exact c_ri (lo1, hi1) hx hb hr hlocks hK hP hD hS dX1_lookAhead_130 (by
                have htt : t = Tn + 1 := by omega
                refine Or.inl ⟨i129, fun j hj => ?_⟩
                obtain ⟨w1, w2⟩ := hrows j (by omega)
                exact ⟨w1, bh_le w2 (by omega)⟩)
      · skip
        refine lv_iload_n hx hb dX1_lookAhead_87 rfl (lv_at hl 2 rfl) ?_
        refine c_if_le (tgt := 113) hx hb dX1_lookAhead_88 (by decide) (fun c88 => ?_) (fun c88 => ?_)
        · skip
          have ht0 : t = 0 := by omega
          subst ht0
          have hs0 := hst1 rfl
          have hbz : bd (rwX lo1 hi1 0) 1000000 := by
            have w0 := hIs 0 (by omega); have w1 := hIs 1 (by omega)
            unfold isSt at hs0; unfold bd; omega
          have hstep := Fw_0 (Dn := Dn) (Cn := Cn) (mr := p1.toInt) hs0
          refine lv_aload_n hx hb dX1_lookAhead_113 rfl (lv_at hl 0 rfl) ?_
          refine lv_iload_n hx hb dX1_lookAhead_114 rfl (lv_at hl 2 rfl) ?_
          refine c_wvi (As := [.int x2]) (ci := 1) (q0 := 0) (kX1_keepAllowed l D cI ad f lo1 hi1 T Dv C Tn Dn Cn x2 0 hT hDv hC hI (by omega) (by omega) (by assumption)) ⟨hx, hb, hml, hown, hts⟩ (cwV 1 hts gX1_lookAhead_X1_keepAllowed rfl rfl rfl (by decide +kernel) ⟨Nat.le_of_ble_eq_true rfl, Nat.le_of_ble_eq_true rfl⟩) hK hP hD hS hA rfl rfl rfl rfl hl.1 rfl (Nat.le_of_ble_eq_true rfl) dX1_lookAhead_115 ⟨Nat.zero_le _, Nat.zero_le _⟩ (fun r115 u115 H locs q115 hP hD hS => ?_)
          try dsimp only at q115
          have hP : va_P D vwCl (WX cI ad f u115.1 u115.2 T Dv C) H := hP
          have hD : va_D A (WX cI ad f u115.1 u115.2 T Dv C) := hD
          refine c_if_ne (tgt := 123) hx hb dX1_lookAhead_118 (by decide) (fun c118 => ?_) (fun c118 => ?_)
          · skip
            refine c_iinc (k := 2) hx hb (fun v123 => [(2, .int v123), (0, .ref (ad 0)), (1, .int p1)]) dX1_lookAhead_123 hl rfl (by decide) (by omega) (by decide) (fun _ => rfl) (fun v123 ls i123 hl => ?_)
            have hl : lv_has ls 3 [(2, .int v123), (0, .ref (ad 0)), (1, .int p1)] := hl
            refine lv_goto (tgt := 79) hx hb dX1_lookAhead_126 (by decide) ?_
            exact ih79 (0 + 1) v123 u115.1 u115.2 _ _ _ (by omega) (by omega) (by omega) (fun h => absurd h (by omega)) (fun j hj => by
                              have hT : Tt (rwX u115.1 u115.2 (0)) (Fw f Dn Cn p1.toInt (0)) := by
                                rcases q115.1 with ⟨-, z⟩ | ⟨z, -⟩
                                · exact z.congr hstep
                                · omega
                              rcases (show j < 0 ∨ j = 0 by omega) with hj | rfl
                              · omega
                              · exact ⟨hT, (Tt_bh (r := rwX lo1 hi1 0) hT (fun a b h => ⟨((hstep a b).mpr h).1, alw_0 _ (Fw_alw h)⟩) (by have w0 := hIs 0 (by omega); have w1 := hIs 1 (by omega); unfold isSt at hs0; omega))⟩) hP hD hS (lv_sub hl [1, 2, 0] rfl)
          · skip
            refine lv_iload_n hx hb dX1_lookAhead_121 rfl (lv_at hl 2 rfl) ?_
            exact c_ri (u115.1, u115.2) hx hb hr hlocks hK hP hD hS dX1_lookAhead_122 (by
                    refine Or.inr ⟨0, by omega, by omega, fun a b h => ?_, fun j hj => ?_⟩
                    · rcases q115.1 with ⟨z, -⟩ | ⟨-, z⟩
                      · omega
                      · exact z a b ((hstep a b).mpr h)
                    · exact absurd hj (by omega))
        · skip
          obtain ⟨k, rfl⟩ : ∃ k, t = k + 1 := ⟨t - 1, by omega⟩
          obtain ⟨hTk, hbk⟩ := hrows k (by omega)
          have hcb := crow_bd (mr := p1.toInt) (but := -1) hI (show k < Tn by omega) hm.1 hm.2 Dn (Nat.le_refl _)
          refine lv_aload_n hx hb dX1_lookAhead_91 rfl (lv_at hl 0 rfl) ?_
          refine lv_iload_n hx hb dX1_lookAhead_92 rfl (lv_at hl 2 rfl) ?_
          refine c_iconst hx hb dX1_lookAhead_93 (by decide) (fun v93 i93 => ?_)
          refine c_isub hx hb dX1_lookAhead_94 (by omega) (fun v94 i94 => ?_)
          refine lv_iload_n hx hb dX1_lookAhead_95 rfl (lv_at hl 1 rfl) ?_
          refine c_iconst hx hb dX1_lookAhead_96 (by decide) (fun v96 i96 => ?_)
          refine c_wvv (As := [.int v94, .int p1, .int v96]) (ci := 1) (q0 := 0) (kX1_gatherChange l D cI ad f lo1 hi1 T Dv C Tn Dn Cn v94 p1 v96 (k) hT hDv hC hI (by omega) (by omega) (by omega)) ⟨hx, hb, hml, hown, hts⟩ (cwV 3 hts gX1_lookAhead_X1_gatherChange rfl rfl rfl (by decide +kernel) ⟨Nat.le_of_ble_eq_true rfl, Nat.le_of_ble_eq_true rfl⟩) hK hP hD hS hA rfl rfl rfl rfl hl.1 rfl (Nat.le_of_ble_eq_true rfl) dX1_lookAhead_97 ⟨Nat.zero_le _, Nat.zero_le _⟩ (fun u97 H locs q97 hP hD hS => ?_)
          try dsimp only at q97
          have hP : va_P D vwCl (WX cI ad f u97.1 u97.2 T Dv C) H := hP
          have hD : va_D A (WX cI ad f u97.1 u97.2 T Dv C) := hD
          rw [i96] at q97
          refine lv_aload_n hx hb dX1_lookAhead_100 rfl (lv_at hl 0 rfl) ?_
          refine va_get (D := D) (ci := 1) (v := .ref (ad 13)) (C := RX1) (T := TX1) (N := 16) hx hb hts inX1 hown hK hP 0 rfl rfl 12 (by decide) fl49 (fun _ h9 => h9) rfl dX1_lookAhead_101 ?_
          refine lv_iload_n hx hb dX1_lookAhead_104 rfl (lv_at hl 2 rfl) ?_
          refine lv_iload_n hx hb dX1_lookAhead_105 rfl (lv_at hl 2 rfl) ?_
          refine c_iconst hx hb dX1_lookAhead_106 (by decide) (fun v106 i106 => ?_)
          refine c_isub hx hb dX1_lookAhead_107 (by omega) (fun v107 i107 => ?_)
          refine c_bipush hx hb dX1_lookAhead_108 (by decide) (fun v108 i108 => ?_)
          refine c_cvv (As := [.int x2, .int v107, .int v108]) (ci := 0) (q0 := 0) (wr := [((ad 0), .inr (1, [.ref (ad 1), .ref (ad 2), .ref (ad 3), .ref (ad 4), .ref (ad 5), .ref (ad 6), .ref (ad 7), .ref (ad 8), .ref (ad 9), .ref (ad 10), .ref (ad 11), .ref (ad 12), .ref (ad 13), .int T, .int Dv, .int C])), ((ad 1), .inl (cI, 6, .inl (f 0))), ((ad 2), .inl (cI, 6, .inl (f 1))), ((ad 3), .inl (cI, 6, .inl (f 2))), ((ad 4), .inl (cI, 6, .inl (f 3))), ((ad 5), .inl (cI, 360, .inl (f 4))), ((ad 6), .inl (cI, 360, .inl (f 5))), ((ad 7), .inl (cI, 2, .inl (f 6))), ((ad 8), .inl (cI, 2, .inl (f 7))), ((ad 9), .inl (cI, 20, .inl (f 8))), ((ad 10), .inl (cI, 20, .inl (f 9))), ((ad 11), .inl (cI, 20, .inl (f 10))), ((ad 12), .inl (cI, 20, .inl (f 11)))]) (wF := (fun uZ => (WX cI ad f uZ.1 uZ.2 T Dv C))) (kX0_putSum l D cI ad u97.1 u97.2 x2 v107 v108 (k + 1) (k) (61) (by omega) (by omega) (by omega) (by omega) (by rw [show rwX u97.1 u97.2 k = rwX lo1 hi1 k from rw_keep (fun j h1 h2 => q97.2 j (by omega))]; exact bh_bd hbk (by omega)) (by have w1 := q97.1; have w2 := hcb.2; unfold eq6 at w1; unfold bd at *; omega)) ⟨hx, hb, hml, hown, hts⟩ (cwV 3 hts gX1_lookAhead_X0_putSum rfl rfl rfl (by decide +kernel) ⟨Nat.le_of_ble_eq_true rfl, Nat.le_of_ble_eq_true rfl⟩) hK hP hD hS hA [13, 14, 15] [0, 1, 2, 3, 4, 5, 6, 7, 8, 9, 10, 11, 12] [0, 1, 2, 3, 4, 5, 6, 7, 8, 9, 10, 11, 12, 13, 14, 15] rfl (by decide) rfl (by decide) (by decide) (by decide) (fun _ => rfl) rfl rfl rfl rfl hl.1 rfl (Nat.le_of_ble_eq_true rfl) dX1_lookAhead_110 ⟨Nat.zero_le _, Nat.zero_le _⟩ (fun u110 H locs q110 hP hD hS => ?_)
          try dsimp only at q110
          have hP : va_P D vwCl (WX cI ad f u110.1 u110.2 T Dv C) H := hP
          have hD : va_D A (WX cI ad f u110.1 u110.2 T Dv C) := hD
          have e97 : rwX u97.1 u97.2 k = rwX lo1 hi1 k := rw_keep (fun j h1 h2 => q97.2 j (by omega))
          have hz : sm6 (rwX u110.1 u110.2 (k + 1)) (rwX lo1 hi1 k) (rwX u97.1 u97.2 61) := by rw [← e97]; exact q110.1
          have hbz : bd (rwX u110.1 u110.2 (k + 1)) 1000000 := by
            have w1 := q97.1; have w2 := hcb.2
            unfold bh at hbk; unfold sm6 at hz; unfold eq6 at w1; unfold bd at *; omega
          have hstep := Fw_1 hI (show k < Tn by omega) hm.1 hm.2 hTk q97.1 hz
          refine lv_aload_n hx hb dX1_lookAhead_113 rfl (lv_at hl 0 rfl) ?_
          refine lv_iload_n hx hb dX1_lookAhead_114 rfl (lv_at hl 2 rfl) ?_
          refine c_wvi (As := [.int x2]) (ci := 1) (q0 := 0) (kX1_keepAllowed l D cI ad f u110.1 u110.2 T Dv C Tn Dn Cn x2 (k + 1) hT hDv hC hI (by omega) (by omega) (by assumption)) ⟨hx, hb, hml, hown, hts⟩ (cwV 1 hts gX1_lookAhead_X1_keepAllowed rfl rfl rfl (by decide +kernel) ⟨Nat.le_of_ble_eq_true rfl, Nat.le_of_ble_eq_true rfl⟩) hK hP hD hS hA rfl rfl rfl rfl hl.1 rfl (Nat.le_of_ble_eq_true rfl) dX1_lookAhead_115 ⟨Nat.zero_le _, Nat.zero_le _⟩ (fun r115_2 u115_2 H locs q115_2 hP hD hS => ?_)
          try dsimp only at q115_2
          have hP : va_P D vwCl (WX cI ad f u115_2.1 u115_2.2 T Dv C) H := hP
          have hD : va_D A (WX cI ad f u115_2.1 u115_2.2 T Dv C) := hD
          refine c_if_ne (tgt := 123) hx hb dX1_lookAhead_118 (by decide) (fun c118_2 => ?_) (fun c118_2 => ?_)
          · skip
            refine c_iinc (k := 2) hx hb (fun v123_2 => [(2, .int v123_2), (0, .ref (ad 0)), (1, .int p1)]) dX1_lookAhead_123 hl rfl (by decide) (by omega) (by decide) (fun _ => rfl) (fun v123_2 ls i123_2 hl => ?_)
            have hl : lv_has ls 3 [(2, .int v123_2), (0, .ref (ad 0)), (1, .int p1)] := hl
            refine lv_goto (tgt := 79) hx hb dX1_lookAhead_126 (by decide) ?_
            exact ih79 (k + 1 + 1) v123_2 u115_2.1 u115_2.2 _ _ _ (by omega) (by omega) (by omega) (fun h => absurd h (by omega)) (fun j hj => by
                              have hT : Tt (rwX u115_2.1 u115_2.2 (k + 1)) (Fw f Dn Cn p1.toInt (k + 1)) := by
                                rcases q115_2.1 with ⟨-, z⟩ | ⟨z, -⟩
                                · exact z.congr hstep
                                · omega
                              rcases (show j < k + 1 ∨ j = k + 1 by omega) with hj | rfl
                              · have ek : rwX u115_2.1 u115_2.2 j = rwX lo1 hi1 j := rw_keep (lo := lo1) (hi := hi1) (fun i h1 h2 => ⟨(q115_2.2 i (by omega)).1.trans ((q110.2 i (by omega)).1.trans (q97.2 i (by omega)).1), (q115_2.2 i (by omega)).2.trans ((q110.2 i (by omega)).2.trans (q97.2 i (by omega)).2)⟩)
                                rw [ek]; exact hrows j (by omega)
                              · exact ⟨hT, (by
                                  have hu := bh_up (P := Fw f Dn Cn p1.toInt (k + 1)) hbk (show bd (rwX u97.1 u97.2 61) 360 by have w1 := q97.1; have w2 := hcb.2; unfold eq6 at w1; unfold bd at *; omega) hz hT (fun a b h => ⟨((hstep a b).mpr h).1, alw_0 _ (Fw_alw h)⟩)
                                  exact bh_le hu (by omega))⟩) hP hD hS (lv_sub hl [1, 2, 0] rfl)
          · skip
            refine lv_iload_n hx hb dX1_lookAhead_121 rfl (lv_at hl 2 rfl) ?_
            exact c_ri (u115_2.1, u115_2.2) hx hb hr hlocks hK hP hD hS dX1_lookAhead_122 (by
                    refine Or.inr ⟨k + 1, by omega, by omega, fun a b h => ?_, fun j hj => ?_⟩
                    · rcases q115_2.1 with ⟨z, -⟩ | ⟨-, z⟩
                      · omega
                      · exact z a b ((hstep a b).mpr h)
                    · exact (hrows j hj).1.some)
  exact HL79 (Tn + 2) 0 v77 lo0 hi0 _ _ _ (by omega) (by omega) (by omega) (fun _ => hst) (fun j h => absurd h (by omega)) hP hD hS (lv_sub hl [1, 2, 0] rfl)
end
section
def FA (f : Nat → Nat → Int32) (Tn Dn Cn : Nat) (lim r : Int) (which : Nat) : Prop :=
  ((¬ (0 ≤ lim ∧ lim ≤ 99999) ∨ noT f Tn Dn Cn 0) ∧ r = -1) ∨
  ((0 ≤ lim ∧ lim ≤ 99999) ∧ ∃ R : Nat → Nat → Int, (∀ j, j ≤ Tn → Tt (R j) (Trv f Tn Dn Cn (Tn - j))) ∧ ((∃ t : Nat, t ≤ Tn ∧ r = (t : Int) ∧ lim < R t which ∧ ∀ j, j < t → R j which ≤ lim) ∨ (r = -1 ∧ ∀ j, j ≤ Tn → R j which ≤ lim)))
theorem LA_rows {f : Nat → Nat → Int32} {Tn Dn Cn : Nat} {mr r : Int} {R : Nat → Nat → Int} (h : LA f Tn Dn Cn mr r R) (hr : r = -1) : ∀ j, j ≤ Tn → Tt (R j) (Fw f Dn Cn mr j) ∧ bh (R j) 50000 := by
  rcases h with ⟨-, h⟩ | ⟨t, h1, h2, -, -⟩
  · exact h
  · omega
theorem LA_no {f : Nat → Nat → Int32} {Tn Dn Cn : Nat} {mr r : Int} {R : Nat → Nat → Int} (h : LA f Tn Dn Cn mr r R) (hr : r ≠ -1) : noT f Tn Dn Cn mr := by
  rcases h with ⟨h, -⟩ | ⟨t, h1, h2, h3, -⟩
  · exact absurd h hr
  · exact ⟨t, h1, h3⟩
theorem LA_ge {f : Nat → Nat → Int32} {Tn Dn Cn : Nat} {mr r : Int} {R : Nat → Nat → Int} (h : LA f Tn Dn Cn mr r R) : -1 ≤ r ∧ r ≤ (Tn : Int) := by
  rcases h with ⟨h, -⟩ | ⟨t, h1, h2, h3, -⟩ <;> omega
set_option maxHeartbeats 4000000 in
set_option maxRecDepth 100000 in
theorem kX1_lookBackTo (l : Launch) (D : va_G) (cI : ClassId) (ad : Nat → Nat) (f : Nat → Nat → Int32) (lo : Nat → Int32) (hi : Nat → Int32) (T : Int32) (Dv : Int32) (C : Int32) (Tn : Nat) (Dn : Nat) (Cn : Nat) (p1 : Int32) (k0 : Nat) (hT : T.toInt = (Tn : Int)) (hDv : Dv.toInt = (Dn : Int)) (hC : C.toInt = (Cn : Int)) (hI : Inv f Tn Dn Cn) (hk0 : p1.toInt = (k0 : Int)) (hkn : k0 ≤ Tn) (hrw : (∀ j, j ≤ Tn → Tt (rwX lo hi j) (Fw f Dn Cn 0 j) ∧ bh (rwX lo hi j) 50000)) : MV l yX1_lookBackTo wsX1_lookBackTo ({ frames := 4, cells := 0, slots := 0, locals := 93 } : Room) D [(cI, .int)] [.ref (ad 0), .int p1] (WX cI ad f lo hi T Dv C) (fun u : (Nat → Int32) × (Nat → Int32) => (WX cI ad f u.1 u.2 T Dv C)) (fun (u : (Nat → Int32) × (Nat → Int32)) => (∀ j, k0 ≤ j → j ≤ Tn → Tt (rwX u.1 u.2 j) (Trv f Tn Dn Cn (Tn - j)) ∧ bh (rwX u.1 u.2 j) 50000) ∧ ∀ j, j < 3 * k0 → u.1 j = lo j ∧ u.2 j = hi j) := by
  refine c_ent (cc := cX1_lookBackTo) (maxL := 3) (ret := none) (Qc := fun A => va_Qv (fun (u : (Nat → Int32) × (Nat → Int32)) => (∀ j, k0 ≤ j → j ≤ Tn → Tt (rwX u.1 u.2 j) (Trv f Tn Dn Cn (Tn - j)) ∧ bh (rwX u.1 u.2 j) 50000) ∧ ∀ j, j < 3 * k0 → u.1 j = lo j ∧ u.2 j = hi j) (cB D [(cI, .int)] A (fun u : (Nat → Int32) × (Nat → Int32) => (WX cI ad f u.1 u.2 T Dv C))) A) (by decide) rfl (Nat.le_of_ble_eq_true rfl) ?_
  intro p e s m below meth c A ls hx hb hr hlocks hts hown hml hK hP hD hA hl
  have hS : va_S A s.heap s.heap [] := va_S.rf
  have hl : lv_has ls 3 [(0, .ref (ad 0)), (1, .int p1)] := hl
  have hP : va_P D vwCl (WX cI ad f lo hi T Dv C) s.heap := hP
  have fl49 := hts (.fieldLink RX1 49 "DoorBench" "spans" "LDoorBench$Spans;") (by decide +kernel)
  have fl141 := hts (.fieldLink RX1 141 "DoorBench" "ticks" "I") (by decide +kernel)
  have inX1 : ∀ w ∈ wsX10, w ∈ wsX1_lookBackTo := by decide +kernel
  obtain ⟨hI0, hId, hIr, hIs, hIc⟩ := id hI
  refine lv_aload_n hx hb dX1_lookBackTo_0 rfl (lv_at hl 0 rfl) ?_
  refine va_get (D := D) (ci := 1) (v := .int T) (C := RX1) (T := TX1) (N := 16) hx hb hts inX1 hown hK hP 0 rfl rfl 13 (by decide) fl141 (fun _ h9 => h9) rfl dX1_lookBackTo_1 ?_
  refine c_iconst hx hb dX1_lookBackTo_4 (by decide) (fun v4 i4 => ?_)
  refine c_isub hx hb dX1_lookBackTo_5 (by omega) (fun v5 i5 => ?_)
  refine lv_istore_n (lv' := [(2, .int v5), (0, .ref (ad 0)), (1, .int p1)]) hx hb dX1_lookBackTo_6 rfl hl (by decide) rfl (fun ls hl => ?_)
  have HL7 : ∀ (n : Nat) (t : Nat) (x2 : Int32) (lo1 : Nat → Int32) (hi1 : Nat → Int32) (H : Heap) (locs : List Loc) (ls : Array Slot), (x2.toInt = (t : Int) - 1) → (k0 ≤ t ∧ t ≤ Tn) → (t + 1 ≤ n) → (∀ j, t ≤ j → j ≤ Tn → Tt (rwX lo1 hi1 j) (Trv f Tn Dn Cn (Tn - j)) ∧ bh (rwX lo1 hi1 j) 50000) → (∀ j, j < 3 * t → lo1 j = lo j ∧ hi1 j = hi j) → va_P D vwCl (WX cI ad f lo1 hi1 T Dv C) H → va_D A (WX cI ad f lo1 hi1 T Dv C) → va_S A s.heap H locs → lv_has ls 3 [(0, .ref (ad 0)), (1, .int p1), (2, .int x2)] → W p l e ({ frames := 4, cells := 0, slots := 0, locals := 93 } : Room) s m [.ref (ad 0), .int p1].toArray below meth c H locs 0 0 (MQ below (va_Qv (fun (u : (Nat → Int32) × (Nat → Int32)) => (∀ j, k0 ≤ j → j ≤ Tn → Tt (rwX u.1 u.2 j) (Trv f Tn Dn Cn (Tn - j)) ∧ bh (rwX u.1 u.2 j) 50000) ∧ ∀ j, j < 3 * k0 → u.1 j = lo j ∧ u.2 j = hi j) (cB D [(cI, .int)] A (fun u : (Nat → Int32) × (Nat → Int32) => (WX cI ad f u.1 u.2 T Dv C))) A) [.ref (ad 0), .int p1].toArray s 0 0 A) (F0 m 7 ls []) := by
    intro n
    induction n with
    | zero => intro t x2 lo1 hi1 H locs ls hx2 ht hms hdone hold; exact absurd hms (by omega)
    | succ n ih7 =>
      intro t x2 lo1 hi1 H locs ls hx2 ht hms hdone hold hP hD hS hl
      refine lv_iload_n hx hb dX1_lookBackTo_7 rfl (lv_at hl 2 rfl) ?_
      refine lv_iload_n hx hb dX1_lookBackTo_8 rfl (lv_at hl 1 rfl) ?_
      refine c_icmp_lt (tgt := 47) hx hb dX1_lookBackTo_9 (by decide) (fun c9 => ?_) (fun c9 => ?_)
      · skip
        exact c_rv (lo1, hi1) hx hb hr hlocks hK hP hD hS dX1_lookBackTo_47 (by
                have htk : t = k0 := by omega
                subst htk
                exact ⟨hdone, hold⟩)
      · skip
        obtain ⟨k, rfl⟩ : ∃ k, t = k + 1 := ⟨t - 1, by omega⟩
        obtain ⟨hTy, hby⟩ := hdone (k + 1) (by omega) (by omega)
        obtain ⟨hTk0, hbk0⟩ := hrw k (by omega)
        have eo : rwX lo1 hi1 k = rwX lo hi k := rw_keep (fun j h1 h2 => hold j (by omega))
        have hcb := crow_bd (mr := 0) (but := -1) hI (show k < Tn by omega) (by omega) (by omega) Dn (Nat.le_refl _)
        refine lv_aload_n hx hb dX1_lookBackTo_12 rfl (lv_at hl 0 rfl) ?_
        refine lv_iload_n hx hb dX1_lookBackTo_13 rfl (lv_at hl 2 rfl) ?_
        refine c_iconst hx hb dX1_lookBackTo_14 (by decide) (fun v14 i14 => ?_)
        refine c_iconst hx hb dX1_lookBackTo_15 (by decide) (fun v15 i15 => ?_)
        refine c_wvv (As := [.int x2, .int v14, .int v15]) (ci := 1) (q0 := 0) (kX1_gatherChange l D cI ad f lo1 hi1 T Dv C Tn Dn Cn x2 v14 v15 (k) hT hDv hC hI (by omega) (by omega) (by omega)) ⟨hx, hb, hml, hown, hts⟩ (cwV 3 hts gX1_lookBackTo_X1_gatherChange rfl rfl rfl (by decide +kernel) ⟨Nat.le_of_ble_eq_true rfl, Nat.le_of_ble_eq_true rfl⟩) hK hP hD hS hA rfl rfl rfl rfl hl.1 rfl (Nat.le_of_ble_eq_true rfl) dX1_lookBackTo_16 ⟨Nat.zero_le _, Nat.zero_le _⟩ (fun u16 H locs q16 hP hD hS => ?_)
        try dsimp only at q16
        have hP : va_P D vwCl (WX cI ad f u16.1 u16.2 T Dv C) H := hP
        have hD : va_D A (WX cI ad f u16.1 u16.2 T Dv C) := hD
        rw [i14, i15] at q16
        have ek : rwX u16.1 u16.2 k = rwX lo hi k := (rw_keep (fun j h1 h2 => q16.2 j (by omega))).trans eo
        have ey : rwX u16.1 u16.2 (k + 1) = rwX lo1 hi1 (k + 1) := rw_keep (fun j h1 h2 => q16.2 j (by omega))
        have hc61 : bd (rwX u16.1 u16.2 61) 360 := by have w1 := q16.1; have w2 := hcb.2; unfold eq6 at w1; unfold bd at *; omega
        refine lv_aload_n hx hb dX1_lookBackTo_19 rfl (lv_at hl 0 rfl) ?_
        refine va_get (D := D) (ci := 1) (v := .ref (ad 13)) (C := RX1) (T := TX1) (N := 16) hx hb hts inX1 hown hK hP 0 rfl rfl 12 (by decide) fl49 (fun _ h9 => h9) rfl dX1_lookBackTo_20 ?_
        refine lv_iload_n hx hb dX1_lookBackTo_23 rfl (lv_at hl 2 rfl) ?_
        refine lv_iload_n hx hb dX1_lookBackTo_24 rfl (lv_at hl 2 rfl) ?_
        refine c_iconst hx hb dX1_lookBackTo_25 (by decide) (fun v25 i25 => ?_)
        refine c_iadd hx hb dX1_lookBackTo_26 (by omega) (fun v26 i26 => ?_)
        refine c_bipush hx hb dX1_lookBackTo_27 (by decide) (fun v27 i27 => ?_)
        refine c_cvv (As := [.int x2, .int v26, .int v27]) (ci := 0) (q0 := 0) (wr := [((ad 0), .inr (1, [.ref (ad 1), .ref (ad 2), .ref (ad 3), .ref (ad 4), .ref (ad 5), .ref (ad 6), .ref (ad 7), .ref (ad 8), .ref (ad 9), .ref (ad 10), .ref (ad 11), .ref (ad 12), .ref (ad 13), .int T, .int Dv, .int C])), ((ad 1), .inl (cI, 6, .inl (f 0))), ((ad 2), .inl (cI, 6, .inl (f 1))), ((ad 3), .inl (cI, 6, .inl (f 2))), ((ad 4), .inl (cI, 6, .inl (f 3))), ((ad 5), .inl (cI, 360, .inl (f 4))), ((ad 6), .inl (cI, 360, .inl (f 5))), ((ad 7), .inl (cI, 2, .inl (f 6))), ((ad 8), .inl (cI, 2, .inl (f 7))), ((ad 9), .inl (cI, 20, .inl (f 8))), ((ad 10), .inl (cI, 20, .inl (f 9))), ((ad 11), .inl (cI, 20, .inl (f 10))), ((ad 12), .inl (cI, 20, .inl (f 11)))]) (wF := (fun uZ => (WX cI ad f uZ.1 uZ.2 T Dv C))) (kX0_cutByDifference l D cI ad u16.1 u16.2 x2 v26 v27 (k) (k + 1) (61) (by omega) (by omega) (by omega) (by omega) (by rw [ey]; exact bh_bd hby (by omega)) (by unfold bd at *; omega)) ⟨hx, hb, hml, hown, hts⟩ (cwV 3 hts gX1_lookBackTo_X0_cutByDifference rfl rfl rfl (by decide +kernel) ⟨Nat.le_of_ble_eq_true rfl, Nat.le_of_ble_eq_true rfl⟩) hK hP hD hS hA [13, 14, 15] [0, 1, 2, 3, 4, 5, 6, 7, 8, 9, 10, 11, 12] [0, 1, 2, 3, 4, 5, 6, 7, 8, 9, 10, 11, 12, 13, 14, 15] rfl (by decide) rfl (by decide) (by decide) (by decide) (fun _ => rfl) rfl rfl rfl rfl hl.1 rfl (Nat.le_of_ble_eq_true rfl) dX1_lookBackTo_29 ⟨Nat.zero_le _, Nat.zero_le _⟩ (fun u29 H locs q29 hP hD hS => ?_)
        try dsimp only at q29
        have hP : va_P D vwCl (WX cI ad f u29.1 u29.2 T Dv C) H := hP
        have hD : va_D A (WX cI ad f u29.1 u29.2 T Dv C) := hD
        rw [ek, ey] at q29
        have hcz := q29.1
        have hbz : bd (rwX u29.1 u29.2 k) 100000000 := by
          have w := cd6_bd (B := 50000) hcz (bh_bd hbk0 (by omega)) (bh_bd hby (by omega)) (by unfold bd at *; omega)
          unfold bd at *; omega
        refine lv_aload_n hx hb dX1_lookBackTo_32 rfl (lv_at hl 0 rfl) ?_
        refine va_get (D := D) (ci := 1) (v := .ref (ad 13)) (C := RX1) (T := TX1) (N := 16) hx hb hts inX1 hown hK hP 0 rfl rfl 12 (by decide) fl49 (fun _ h9 => h9) rfl dX1_lookBackTo_33 ?_
        refine lv_iload_n hx hb dX1_lookBackTo_36 rfl (lv_at hl 2 rfl) ?_
        refine c_cvi (As := [.int x2]) (ci := 0) (q0 := 0) (wr := [((ad 0), .inr (1, [.ref (ad 1), .ref (ad 2), .ref (ad 3), .ref (ad 4), .ref (ad 5), .ref (ad 6), .ref (ad 7), .ref (ad 8), .ref (ad 9), .ref (ad 10), .ref (ad 11), .ref (ad 12), .ref (ad 13), .int T, .int Dv, .int C])), ((ad 1), .inl (cI, 6, .inl (f 0))), ((ad 2), .inl (cI, 6, .inl (f 1))), ((ad 3), .inl (cI, 6, .inl (f 2))), ((ad 4), .inl (cI, 6, .inl (f 3))), ((ad 5), .inl (cI, 360, .inl (f 4))), ((ad 6), .inl (cI, 360, .inl (f 5))), ((ad 7), .inl (cI, 2, .inl (f 6))), ((ad 8), .inl (cI, 2, .inl (f 7))), ((ad 9), .inl (cI, 20, .inl (f 8))), ((ad 10), .inl (cI, 20, .inl (f 9))), ((ad 11), .inl (cI, 20, .inl (f 10))), ((ad 12), .inl (cI, 20, .inl (f 11)))]) (wF := (fun uZ => (WX cI ad f uZ.1 uZ.2 T Dv C))) (kX0_tighten l D cI ad u29.1 u29.2 x2 (k) (by omega) (by omega) hbz) ⟨hx, hb, hml, hown, hts⟩ (cwV 1 hts gX1_lookBackTo_X0_tighten rfl rfl rfl (by decide +kernel) ⟨Nat.le_of_ble_eq_true rfl, Nat.le_of_ble_eq_true rfl⟩) hK hP hD hS hA [13, 14, 15] [0, 1, 2, 3, 4, 5, 6, 7, 8, 9, 10, 11, 12] [0, 1, 2, 3, 4, 5, 6, 7, 8, 9, 10, 11, 12, 13, 14, 15] rfl (by decide) rfl (by decide) (by decide) (by decide) (fun _ => rfl) rfl rfl rfl rfl hl.1 rfl (Nat.le_of_ble_eq_true rfl) dX1_lookBackTo_37 ⟨Nat.zero_le _, Nat.zero_le _⟩ (fun r37 u37 H locs q37 hP hD hS => ?_)
        try dsimp only at q37
        have hP : va_P D vwCl (WX cI ad f u37.1 u37.2 T Dv C) H := hP
        have hD : va_D A (WX cI ad f u37.1 u37.2 T Dv C) := hD
        refine lv_pop hx hb dX1_lookBackTo_40 rfl ?_
        refine c_iinc (k := 2) hx hb (fun v41 => [(2, .int v41), (0, .ref (ad 0)), (1, .int p1)]) dX1_lookBackTo_41 hl rfl (by decide) (by omega) (by decide) (fun _ => rfl) (fun v41 ls i41 hl => ?_)
        have hl : lv_has ls 3 [(2, .int v41), (0, .ref (ad 0)), (1, .int p1)] := hl
        refine lv_goto (tgt := 7) hx hb dX1_lookBackTo_44 (by decide) ?_
        exact ih7 k v41 u37.1 u37.2 _ _ _ (by omega) (by omega) (by omega) (fun j h1 h2 => by
                      rcases (show j = k ∨ k + 1 ≤ j by omega) with rfl | hj
                      · have hT := Trv_1 hI (show j + 1 ≤ Tn by omega) hTk0 hTy q16.1 hcz q37.1
                        exact ⟨hT, Tt_bh (r := rwX lo hi j) hT (fun a b h => ⟨(hTk0.2 a b).mpr (by have w := Trv_Fw h; rw [show Tn - (Tn - j) = j by omega] at w; exact w), alw_0 _ (Fw_alw (Trv_Fw h))⟩) (by unfold bh at hbk0; omega)⟩
                      · have e1 : rwX u37.1 u37.2 j = rwX lo1 hi1 j := rw_keep (fun i h3 h4 => ⟨(q37.2.1 i (by omega)).1.trans ((q29.2 i (by omega)).1.trans (q16.2 i (by omega)).1), (q37.2.1 i (by omega)).2.trans ((q29.2 i (by omega)).2.trans (q16.2 i (by omega)).2)⟩)
                        rw [e1]; exact hdone j hj h2) (fun i hi => ⟨(q37.2.1 i (by omega)).1.trans ((q29.2 i (by omega)).1.trans ((q16.2 i (by omega)).1.trans (hold i (by omega)).1)), (q37.2.1 i (by omega)).2.trans ((q29.2 i (by omega)).2.trans ((q16.2 i (by omega)).2.trans (hold i (by omega)).2))⟩) hP hD hS (lv_sub hl [1, 2, 0] rfl)
  exact HL7 (Tn + 1) Tn v5 lo hi _ _ _ (by omega) (by omega) (by omega) (fun j h1 h2 => by
        have e : j = Tn := by omega
        subst e
        rw [show j - j = 0 by omega]; exact hrw j h2) (fun j _ => ⟨rfl, rfl⟩) hP hD hS (lv_sub hl [1, 2, 0] rfl)
set_option maxHeartbeats 4000000 in
set_option maxRecDepth 100000 in
theorem kX1_firstAbove (l : Launch) (D : va_G) (cI : ClassId) (ad : Nat → Nat) (f : Nat → Nat → Int32) (lo : Nat → Int32) (hi : Nat → Int32) (T : Int32) (Dv : Int32) (C : Int32) (Tn : Nat) (Dn : Nat) (Cn : Nat) (p1 : Int32) (p2 : Int32) (wh : Nat) (hT : T.toInt = (Tn : Int)) (hDv : Dv.toInt = (Dn : Int)) (hC : C.toInt = (Cn : Int)) (hI : Inv f Tn Dn Cn) (hwh0 : (p2.toInt = 0 ∧ wh = 4) ∨ (p2.toInt ≠ 0 ∧ wh = 5)) : MI l yX1_firstAbove wsX1_firstAbove ({ frames := 6, cells := 0, slots := 0, locals := 136 } : Room) D [(cI, .int)] [.ref (ad 0), .int p1, .int p2] (WX cI ad f lo hi T Dv C) (fun u : (Nat → Int32) × (Nat → Int32) => (WX cI ad f u.1 u.2 T Dv C)) (fun (r : Int32) (_ : (Nat → Int32) × (Nat → Int32)) => FA f Tn Dn Cn p1.toInt r.toInt wh) := by
  refine c_ent (cc := cX1_firstAbove) (maxL := 5) (ret := (some .int)) (Qc := fun A => va_Qi (fun (r : Int32) (_ : (Nat → Int32) × (Nat → Int32)) => FA f Tn Dn Cn p1.toInt r.toInt wh) (cB D [(cI, .int)] A (fun u : (Nat → Int32) × (Nat → Int32) => (WX cI ad f u.1 u.2 T Dv C))) A) (by decide) rfl (Nat.le_of_ble_eq_true rfl) ?_
  intro p e s m below meth c A ls hx hb hr hlocks hts hown hml hK hP hD hA hl
  have hS : va_S A s.heap s.heap [] := va_S.rf
  have hl : lv_has ls 5 [(0, .ref (ad 0)), (1, .int p1), (2, .int p2)] := hl
  have hP : va_P D vwCl (WX cI ad f lo hi T Dv C) s.heap := hP
  have fl49 := hts (.fieldLink RX1 49 "DoorBench" "spans" "LDoorBench$Spans;") (by decide +kernel)
  have fl141 := hts (.fieldLink RX1 141 "DoorBench" "ticks" "I") (by decide +kernel)
  have inX1 : ∀ w ∈ wsX10, w ∈ wsX1_firstAbove := by decide +kernel
  obtain ⟨hI0, hId, hIr, hIs, hIc⟩ := id hI
  refine lv_iload_n hx hb dX1_firstAbove_0 rfl (lv_at hl 1 rfl) ?_
  refine c_iconst hx hb dX1_firstAbove_1 (by decide) (fun v1 i1 => ?_)
  refine c_ldc (n := 99999) hx hb hown (hts (.constant RX1 198 (99999)) (by decide +kernel)) dX1_firstAbove_2 (by decide) (fun v2 i2 => ?_)
  refine c_cpi (As := [.int p1, .int v1, .int v2]) (kX1_within l D cI p1 v1 v2) ⟨hx, hb, hml, hown, hts⟩ (va_cwS 3 hts gX1_firstAbove_X1_within rfl rfl rfl (by decide +kernel) ⟨Nat.le_of_ble_eq_true rfl, Nat.le_of_ble_eq_true rfl⟩) hK hP hS hA rfl hl.1 rfl (Nat.le_of_ble_eq_true rfl) dX1_firstAbove_4 ⟨Nat.zero_le _, Nat.zero_le _⟩ (fun r4 H locs q4 hP hS => ?_)
  try dsimp only at q4
  refine c_if_eq (tgt := 19) hx hb dX1_firstAbove_7 (by decide) (fun c7 => ?_) (fun c7 => ?_)
  · skip
    refine c_iconst hx hb dX1_firstAbove_19 (by decide) (fun v19 i19 => ?_)
    exact c_ri (lo, hi) hx hb hr hlocks hK hP hD hS dX1_firstAbove_20 (Or.inl ⟨Or.inl (by omega), by omega⟩)
  · skip
    refine lv_aload_n hx hb dX1_firstAbove_10 rfl (lv_at hl 0 rfl) ?_
    refine c_iconst hx hb dX1_firstAbove_11 (by decide) (fun v11 i11 => ?_)
    refine c_wvi (As := [.int v11]) (ci := 1) (q0 := 0) (kX1_lookAhead l D cI ad f lo hi T Dv C Tn Dn Cn v11 hT hDv hC hI (by omega)) ⟨hx, hb, hml, hown, hts⟩ (cwV 1 hts gX1_firstAbove_X1_lookAhead rfl rfl rfl (by decide +kernel) ⟨Nat.le_of_ble_eq_true rfl, Nat.le_of_ble_eq_true rfl⟩) hK hP hD hS hA rfl rfl rfl rfl hl.1 rfl (Nat.le_of_ble_eq_true rfl) dX1_firstAbove_12 ⟨Nat.zero_le _, Nat.zero_le _⟩ (fun r12 u12 H locs q12 hP hD hS => ?_)
    try dsimp only at q12
    have hP : va_P D vwCl (WX cI ad f u12.1 u12.2 T Dv C) H := hP
    have hD : va_D A (WX cI ad f u12.1 u12.2 T Dv C) := hD
    refine c_iconst hx hb dX1_firstAbove_15 (by decide) (fun v15 i15 => ?_)
    refine c_icmp_eq (tgt := 21) hx hb dX1_firstAbove_16 (by decide) (fun c16 => ?_) (fun c16 => ?_)
    · skip
      have hrw : (∀ j, j ≤ Tn → Tt (rwX u12.1 u12.2 j) (Fw f Dn Cn 0 j) ∧ bh (rwX u12.1 u12.2 j) 50000) := by have w := LA_rows q12 (by omega); rw [i11] at w; exact w
      refine lv_aload_n hx hb dX1_firstAbove_21 rfl (lv_at hl 0 rfl) ?_
      refine c_iconst hx hb dX1_firstAbove_22 (by decide) (fun v22 i22 => ?_)
      refine c_wvv (As := [.int v22]) (ci := 1) (q0 := 0) (kX1_lookBackTo l D cI ad f u12.1 u12.2 T Dv C Tn Dn Cn v22 0 hT hDv hC hI (by omega) (by omega) hrw) ⟨hx, hb, hml, hown, hts⟩ (cwV 1 hts gX1_firstAbove_X1_lookBackTo rfl rfl rfl (by decide +kernel) ⟨Nat.le_of_ble_eq_true rfl, Nat.le_of_ble_eq_true rfl⟩) hK hP hD hS hA rfl rfl rfl rfl hl.1 rfl (Nat.le_of_ble_eq_true rfl) dX1_firstAbove_23 ⟨Nat.zero_le _, Nat.zero_le _⟩ (fun u23 H locs q23 hP hD hS => ?_)
      try dsimp only at q23
      have hP : va_P D vwCl (WX cI ad f u23.1 u23.2 T Dv C) H := hP
      have hD : va_D A (WX cI ad f u23.1 u23.2 T Dv C) := hD
      refine c_iconst hx hb dX1_firstAbove_26 (by decide) (fun v26 i26 => ?_)
      refine lv_istore_n (lv' := [(3, .int v26), (0, .ref (ad 0)), (1, .int p1), (2, .int p2)]) hx hb dX1_firstAbove_27 rfl hl (by decide) rfl (fun ls hl => ?_)
      have HL28 : ∀ (n : Nat) (t : Nat) (x3 : Int32) (H : Heap) (locs : List Loc) (ls : Array Slot), (x3.toInt = (t : Int)) → (t ≤ Tn + 1) → (Tn + 2 ≤ t + n) → (∀ j, j < t → rwX u23.1 u23.2 j wh ≤ p1.toInt) → va_P D vwCl (WX cI ad f u23.1 u23.2 T Dv C) H → va_D A (WX cI ad f u23.1 u23.2 T Dv C) → va_S A s.heap H locs → lv_has ls 5 [(0, .ref (ad 0)), (1, .int p1), (2, .int p2), (3, .int x3)] → W p l e ({ frames := 6, cells := 0, slots := 0, locals := 136 } : Room) s m [.ref (ad 0), .int p1, .int p2].toArray below meth c H locs 0 0 (MQ below (va_Qi (fun (r : Int32) (_ : (Nat → Int32) × (Nat → Int32)) => FA f Tn Dn Cn p1.toInt r.toInt wh) (cB D [(cI, .int)] A (fun u : (Nat → Int32) × (Nat → Int32) => (WX cI ad f u.1 u.2 T Dv C))) A) [.ref (ad 0), .int p1, .int p2].toArray s 0 0 A) (F0 m 28 ls []) := by
        intro n
        induction n with
        | zero => intro t x3 H locs ls hx3 ht hms hle; exact absurd hms (by omega)
        | succ n ih28 =>
          intro t x3 H locs ls hx3 ht hms hle hP hD hS hl
          refine lv_iload_n hx hb dX1_firstAbove_28 rfl (lv_at hl 3 rfl) ?_
          refine lv_aload_n hx hb dX1_firstAbove_29 rfl (lv_at hl 0 rfl) ?_
          refine va_get (D := D) (ci := 1) (v := .int T) (C := RX1) (T := TX1) (N := 16) hx hb hts inX1 hown hK hP 0 rfl rfl 13 (by decide) fl141 (fun _ h9 => h9) rfl dX1_firstAbove_30 ?_
          refine c_icmp_gt (tgt := 77) hx hb dX1_firstAbove_33 (by decide) (fun c33 => ?_) (fun c33 => ?_)
          · skip
            refine c_iconst hx hb dX1_firstAbove_77 (by decide) (fun v77 i77 => ?_)
            exact c_ri (u23.1, u23.2) hx hb hr hlocks hK hP hD hS dX1_firstAbove_78 (Or.inr ⟨by omega, (fun j => rwX u23.1 u23.2 j), fun j hj => (q23.1 j (by omega) hj).1, Or.inr ⟨by omega, fun j hj => hle j (by omega)⟩⟩)
          · skip
            refine lv_iload_n hx hb dX1_firstAbove_36 rfl (lv_at hl 2 rfl) ?_
            refine c_if_eq (tgt := 52) hx hb dX1_firstAbove_37 (by decide) (fun c37 => ?_) (fun c37 => ?_)
            · skip
              have hwh : wh = 4 := by omega
              refine lv_aload_n hx hb dX1_firstAbove_52 rfl (lv_at hl 0 rfl) ?_
              refine va_get (D := D) (ci := 1) (v := .ref (ad 13)) (C := RX1) (T := TX1) (N := 16) hx hb hts inX1 hown hK hP 0 rfl rfl 12 (by decide) fl49 (fun _ h9 => h9) rfl dX1_firstAbove_53 ?_
              refine lv_iload_n hx hb dX1_firstAbove_56 rfl (lv_at hl 3 rfl) ?_
              refine c_iconst hx hb dX1_firstAbove_57 (by decide) (fun v57 i57 => ?_)
              refine c_cvi (As := [.int x3, .int v57]) (ci := 0) (q0 := 0) (wr := [((ad 0), .inr (1, [.ref (ad 1), .ref (ad 2), .ref (ad 3), .ref (ad 4), .ref (ad 5), .ref (ad 6), .ref (ad 7), .ref (ad 8), .ref (ad 9), .ref (ad 10), .ref (ad 11), .ref (ad 12), .ref (ad 13), .int T, .int Dv, .int C])), ((ad 1), .inl (cI, 6, .inl (f 0))), ((ad 2), .inl (cI, 6, .inl (f 1))), ((ad 3), .inl (cI, 6, .inl (f 2))), ((ad 4), .inl (cI, 6, .inl (f 3))), ((ad 5), .inl (cI, 360, .inl (f 4))), ((ad 6), .inl (cI, 360, .inl (f 5))), ((ad 7), .inl (cI, 2, .inl (f 6))), ((ad 8), .inl (cI, 2, .inl (f 7))), ((ad 9), .inl (cI, 20, .inl (f 8))), ((ad 10), .inl (cI, 20, .inl (f 9))), ((ad 11), .inl (cI, 20, .inl (f 10))), ((ad 12), .inl (cI, 20, .inl (f 11)))]) (wF := (fun uZ => (WX cI ad f u23.1 u23.2 T Dv C))) (kX0_low l D cI ad u23.1 u23.2 x3 v57 (t) (2) (by omega) (by omega) (by omega) (by omega)) ⟨hx, hb, hml, hown, hts⟩ (cwV 2 hts gX1_firstAbove_X0_low rfl rfl rfl (by decide +kernel) ⟨Nat.le_of_ble_eq_true rfl, Nat.le_of_ble_eq_true rfl⟩) hK hP hD hS hA [13, 14, 15] [0, 1, 2, 3, 4, 5, 6, 7, 8, 9, 10, 11, 12] [0, 1, 2, 3, 4, 5, 6, 7, 8, 9, 10, 11, 12, 13, 14, 15] rfl (by decide) rfl (by decide) (by decide) (by decide) (fun _ => rfl) rfl rfl rfl rfl hl.1 rfl (Nat.le_of_ble_eq_true rfl) dX1_firstAbove_58 ⟨Nat.zero_le _, Nat.zero_le _⟩ (fun r58 u58 H locs q58 hP hD hS => ?_)
              try dsimp only at q58
              have hP : va_P D vwCl (WX cI ad f u23.1 u23.2 T Dv C) H := hP
              have hD : va_D A (WX cI ad f u23.1 u23.2 T Dv C) := hD
              have y58 : r58.toInt = rwX u23.1 u23.2 t 4 := by rw [q58]; rfl
              refine lv_istore (lv' := [(4, .int r58), (0, .ref (ad 0)), (1, .int p1), (2, .int p2), (3, .int x3)]) hx hb dX1_firstAbove_61 hl (by decide) rfl (fun ls hl => ?_)
              refine lv_iload hx hb dX1_firstAbove_63 (lv_at hl 0 rfl) ?_
              refine lv_iload_n hx hb dX1_firstAbove_65 rfl (lv_at hl 2 rfl) ?_
              refine c_icmp_le (tgt := 71) hx hb dX1_firstAbove_66 (by decide) (fun c66 => ?_) (fun c66 => ?_)
              · skip
                refine c_iinc (k := 4) hx hb (fun v71 => [(3, .int v71), (4, .int r58), (0, .ref (ad 0)), (1, .int p1), (2, .int p2)]) dX1_firstAbove_71 hl rfl (by decide) (by omega) (by decide) (fun _ => rfl) (fun v71 ls i71 hl => ?_)
                have hl : lv_has ls 5 [(3, .int v71), (4, .int r58), (0, .ref (ad 0)), (1, .int p1), (2, .int p2)] := hl
                refine lv_goto (tgt := 28) hx hb dX1_firstAbove_74 (by decide) ?_
                exact ih28 (t + 1) v71 _ _ _ (by omega) (by omega) (by omega) (fun j hj => by
                                  rcases (show j < t ∨ j = t by omega) with h | rfl
                                  · exact hle j h
                                  · rw [hwh]; omega) hP hD hS (lv_sub hl [2, 3, 4, 0] rfl)
              · skip
                refine lv_iload_n hx hb dX1_firstAbove_69 rfl (lv_at hl 4 rfl) ?_
                exact c_ri (u23.1, u23.2) hx hb hr hlocks hK hP hD hS dX1_firstAbove_70 (Or.inr ⟨by omega, (fun j => rwX u23.1 u23.2 j), fun j hj => (q23.1 j (by omega) hj).1, Or.inl ⟨t, by omega, hx3, by show p1.toInt < rwX u23.1 u23.2 t wh; rw [hwh]; omega, hle⟩⟩)
            · skip
              have hwh : wh = 5 := by omega
              refine lv_aload_n hx hb dX1_firstAbove_40 rfl (lv_at hl 0 rfl) ?_
              refine va_get (D := D) (ci := 1) (v := .ref (ad 13)) (C := RX1) (T := TX1) (N := 16) hx hb hts inX1 hown hK hP 0 rfl rfl 12 (by decide) fl49 (fun _ h9 => h9) rfl dX1_firstAbove_41 ?_
              refine lv_iload_n hx hb dX1_firstAbove_44 rfl (lv_at hl 3 rfl) ?_
              refine c_iconst hx hb dX1_firstAbove_45 (by decide) (fun v45 i45 => ?_)
              refine c_cvi (As := [.int x3, .int v45]) (ci := 0) (q0 := 0) (wr := [((ad 0), .inr (1, [.ref (ad 1), .ref (ad 2), .ref (ad 3), .ref (ad 4), .ref (ad 5), .ref (ad 6), .ref (ad 7), .ref (ad 8), .ref (ad 9), .ref (ad 10), .ref (ad 11), .ref (ad 12), .ref (ad 13), .int T, .int Dv, .int C])), ((ad 1), .inl (cI, 6, .inl (f 0))), ((ad 2), .inl (cI, 6, .inl (f 1))), ((ad 3), .inl (cI, 6, .inl (f 2))), ((ad 4), .inl (cI, 6, .inl (f 3))), ((ad 5), .inl (cI, 360, .inl (f 4))), ((ad 6), .inl (cI, 360, .inl (f 5))), ((ad 7), .inl (cI, 2, .inl (f 6))), ((ad 8), .inl (cI, 2, .inl (f 7))), ((ad 9), .inl (cI, 20, .inl (f 8))), ((ad 10), .inl (cI, 20, .inl (f 9))), ((ad 11), .inl (cI, 20, .inl (f 10))), ((ad 12), .inl (cI, 20, .inl (f 11)))]) (wF := (fun uZ => (WX cI ad f u23.1 u23.2 T Dv C))) (kX0_high l D cI ad u23.1 u23.2 x3 v45 (t) (2) (by omega) (by omega) (by omega) (by omega)) ⟨hx, hb, hml, hown, hts⟩ (cwV 2 hts gX1_firstAbove_X0_high rfl rfl rfl (by decide +kernel) ⟨Nat.le_of_ble_eq_true rfl, Nat.le_of_ble_eq_true rfl⟩) hK hP hD hS hA [13, 14, 15] [0, 1, 2, 3, 4, 5, 6, 7, 8, 9, 10, 11, 12] [0, 1, 2, 3, 4, 5, 6, 7, 8, 9, 10, 11, 12, 13, 14, 15] rfl (by decide) rfl (by decide) (by decide) (by decide) (fun _ => rfl) rfl rfl rfl rfl hl.1 rfl (Nat.le_of_ble_eq_true rfl) dX1_firstAbove_46 ⟨Nat.zero_le _, Nat.zero_le _⟩ (fun r46 u46 H locs q46 hP hD hS => ?_)
              try dsimp only at q46
              have hP : va_P D vwCl (WX cI ad f u23.1 u23.2 T Dv C) H := hP
              have hD : va_D A (WX cI ad f u23.1 u23.2 T Dv C) := hD
              have y46 : r46.toInt = rwX u23.1 u23.2 t 5 := by rw [q46]; rfl
              refine lv_goto (tgt := 61) hx hb dX1_firstAbove_49 (by decide) ?_
              refine lv_istore (lv' := [(4, .int r46), (0, .ref (ad 0)), (1, .int p1), (2, .int p2), (3, .int x3)]) hx hb dX1_firstAbove_61 hl (by decide) rfl (fun ls hl => ?_)
              refine lv_iload hx hb dX1_firstAbove_63 (lv_at hl 0 rfl) ?_
              refine lv_iload_n hx hb dX1_firstAbove_65 rfl (lv_at hl 2 rfl) ?_
              refine c_icmp_le (tgt := 71) hx hb dX1_firstAbove_66 (by decide) (fun c66_2 => ?_) (fun c66_2 => ?_)
              · skip
                refine c_iinc (k := 4) hx hb (fun v71_2 => [(3, .int v71_2), (4, .int r46), (0, .ref (ad 0)), (1, .int p1), (2, .int p2)]) dX1_firstAbove_71 hl rfl (by decide) (by omega) (by decide) (fun _ => rfl) (fun v71_2 ls i71_2 hl => ?_)
                have hl : lv_has ls 5 [(3, .int v71_2), (4, .int r46), (0, .ref (ad 0)), (1, .int p1), (2, .int p2)] := hl
                refine lv_goto (tgt := 28) hx hb dX1_firstAbove_74 (by decide) ?_
                exact ih28 (t + 1) v71_2 _ _ _ (by omega) (by omega) (by omega) (fun j hj => by
                                  rcases (show j < t ∨ j = t by omega) with h | rfl
                                  · exact hle j h
                                  · rw [hwh]; omega) hP hD hS (lv_sub hl [2, 3, 4, 0] rfl)
              · skip
                refine lv_iload_n hx hb dX1_firstAbove_69 rfl (lv_at hl 4 rfl) ?_
                exact c_ri (u23.1, u23.2) hx hb hr hlocks hK hP hD hS dX1_firstAbove_70 (Or.inr ⟨by omega, (fun j => rwX u23.1 u23.2 j), fun j hj => (q23.1 j (by omega) hj).1, Or.inl ⟨t, by omega, hx3, by show p1.toInt < rwX u23.1 u23.2 t wh; rw [hwh]; omega, hle⟩⟩)
      exact HL28 (Tn + 2) 0 v26 _ _ _ (by omega) (by omega) (by omega) (fun j h => absurd h (by omega)) hP hD hS (lv_sub hl [1, 2, 3, 0] rfl)
    · skip
      refine c_iconst hx hb dX1_firstAbove_19 (by decide) (fun v19_2 i19_2 => ?_)
      exact c_ri (u12.1, u12.2) hx hb hr hlocks hK hP hD hS dX1_firstAbove_20 (Or.inl ⟨Or.inr (by have w := LA_no q12 (by omega); rw [i11] at w; exact w), by omega⟩)
set_option maxHeartbeats 4000000 in
set_option maxRecDepth 100000 in
theorem kX1_leastRest (l : Launch) (D : va_G) (cI : ClassId) (ad : Nat → Nat) (f : Nat → Nat → Int32) (lo : Nat → Int32) (hi : Nat → Int32) (T : Int32) (Dv : Int32) (C : Int32) (Tn : Nat) (Dn : Nat) (Cn : Nat) (p1 : Int32) (p2 : Int32) (t : Nat) (w : Nat) (hT : T.toInt = (Tn : Int)) (hDv : Dv.toInt = (Dn : Int)) (hC : C.toInt = (Cn : Int)) (hI : Inv f Tn Dn Cn) (ht : p1.toInt = (t : Int)) (hw : p2.toInt = (w : Int)) (htn : t < 60) (hw2 : w ≤ 2) (hb1 : bd (rwX lo hi (t + 1)) 1000000) (hb2 : bd (rwX lo hi t) 1000000) (hb3 : bd (rwX lo hi 61) 1000000) : MI l yX1_leastRest wsX1_leastRest ({ frames := 2, cells := 0, slots := 0, locals := 43 } : Room) D [(cI, .int)] [.ref (ad 0), .int p1, .int p2] (WX cI ad f lo hi T Dv C) (fun u : Unit => (WX cI ad f lo hi T Dv C)) (fun (r : Int32) (_ : Unit) => r.toInt = (lo (3 * (t + 1) + w)).toInt - (hi (3 * t + w)).toInt - (hi (3 * 61 + w)).toInt) := by
  refine c_ent (cc := cX1_leastRest) (maxL := 3) (ret := (some .int)) (Qc := fun A => va_Qi (fun (r : Int32) (_ : Unit) => r.toInt = (lo (3 * (t + 1) + w)).toInt - (hi (3 * t + w)).toInt - (hi (3 * 61 + w)).toInt) (cB D [(cI, .int)] A (fun u : Unit => (WX cI ad f lo hi T Dv C))) A) (by decide) rfl (Nat.le_of_ble_eq_true rfl) ?_
  intro p e s m below meth c A ls hx hb hr hlocks hts hown hml hK hP hD hA hl
  have hS : va_S A s.heap s.heap [] := va_S.rf
  have hl : lv_has ls 3 [(0, .ref (ad 0)), (1, .int p1), (2, .int p2)] := hl
  have hP : va_P D vwCl (WX cI ad f lo hi T Dv C) s.heap := hP
  have fl49 := hts (.fieldLink RX1 49 "DoorBench" "spans" "LDoorBench$Spans;") (by decide +kernel)
  have inX1 : ∀ w ∈ wsX10, w ∈ wsX1_leastRest := by decide +kernel
  obtain ⟨hI0, hId, hIr, hIs, hIc⟩ := id hI
  have z1 := bd_at hb1 (k := w) hw2
  have z2 := bd_at hb2 (k := w) hw2
  have z3 := bd_at hb3 (k := w) hw2
  refine lv_aload_n hx hb dX1_leastRest_0 rfl (lv_at hl 0 rfl) ?_
  refine va_get (D := D) (ci := 1) (v := .ref (ad 13)) (C := RX1) (T := TX1) (N := 16) hx hb hts inX1 hown hK hP 0 rfl rfl 12 (by decide) fl49 (fun _ h9 => h9) rfl dX1_leastRest_1 ?_
  refine lv_iload_n hx hb dX1_leastRest_4 rfl (lv_at hl 1 rfl) ?_
  refine c_iconst hx hb dX1_leastRest_5 (by decide) (fun v5 i5 => ?_)
  refine c_iadd hx hb dX1_leastRest_6 (by omega) (fun v6 i6 => ?_)
  refine lv_iload_n hx hb dX1_leastRest_7 rfl (lv_at hl 2 rfl) ?_
  refine c_cvi (As := [.int v6, .int p2]) (ci := 0) (q0 := 0) (wr := [((ad 0), .inr (1, [.ref (ad 1), .ref (ad 2), .ref (ad 3), .ref (ad 4), .ref (ad 5), .ref (ad 6), .ref (ad 7), .ref (ad 8), .ref (ad 9), .ref (ad 10), .ref (ad 11), .ref (ad 12), .ref (ad 13), .int T, .int Dv, .int C])), ((ad 1), .inl (cI, 6, .inl (f 0))), ((ad 2), .inl (cI, 6, .inl (f 1))), ((ad 3), .inl (cI, 6, .inl (f 2))), ((ad 4), .inl (cI, 6, .inl (f 3))), ((ad 5), .inl (cI, 360, .inl (f 4))), ((ad 6), .inl (cI, 360, .inl (f 5))), ((ad 7), .inl (cI, 2, .inl (f 6))), ((ad 8), .inl (cI, 2, .inl (f 7))), ((ad 9), .inl (cI, 20, .inl (f 8))), ((ad 10), .inl (cI, 20, .inl (f 9))), ((ad 11), .inl (cI, 20, .inl (f 10))), ((ad 12), .inl (cI, 20, .inl (f 11)))]) (wF := (fun uZ => (WX cI ad f lo hi T Dv C))) (kX0_low l D cI ad lo hi v6 p2 (t + 1) (w) (by omega) (by omega) (by omega) (by omega)) ⟨hx, hb, hml, hown, hts⟩ (cwV 2 hts gX1_leastRest_X0_low rfl rfl rfl (by decide +kernel) ⟨Nat.le_of_ble_eq_true rfl, Nat.le_of_ble_eq_true rfl⟩) hK hP hD hS hA [13, 14, 15] [0, 1, 2, 3, 4, 5, 6, 7, 8, 9, 10, 11, 12] [0, 1, 2, 3, 4, 5, 6, 7, 8, 9, 10, 11, 12, 13, 14, 15] rfl (by decide) rfl (by decide) (by decide) (by decide) (fun _ => rfl) rfl rfl rfl rfl hl.1 rfl (Nat.le_of_ble_eq_true rfl) dX1_leastRest_8 ⟨Nat.zero_le _, Nat.zero_le _⟩ (fun r8 u8 H locs q8 hP hD hS => ?_)
  try dsimp only at q8
  have hP : va_P D vwCl (WX cI ad f lo hi T Dv C) H := hP
  have hD : va_D A (WX cI ad f lo hi T Dv C) := hD
  have y8 : r8.toInt = (lo (3 * (t + 1) + w)).toInt := by rw [q8]
  refine lv_aload_n hx hb dX1_leastRest_11 rfl (lv_at hl 0 rfl) ?_
  refine va_get (D := D) (ci := 1) (v := .ref (ad 13)) (C := RX1) (T := TX1) (N := 16) hx hb hts inX1 hown hK hP 0 rfl rfl 12 (by decide) fl49 (fun _ h9 => h9) rfl dX1_leastRest_12 ?_
  refine lv_iload_n hx hb dX1_leastRest_15 rfl (lv_at hl 1 rfl) ?_
  refine lv_iload_n hx hb dX1_leastRest_16 rfl (lv_at hl 2 rfl) ?_
  refine c_cvi (As := [.int p1, .int p2]) (ci := 0) (q0 := 0) (wr := [((ad 0), .inr (1, [.ref (ad 1), .ref (ad 2), .ref (ad 3), .ref (ad 4), .ref (ad 5), .ref (ad 6), .ref (ad 7), .ref (ad 8), .ref (ad 9), .ref (ad 10), .ref (ad 11), .ref (ad 12), .ref (ad 13), .int T, .int Dv, .int C])), ((ad 1), .inl (cI, 6, .inl (f 0))), ((ad 2), .inl (cI, 6, .inl (f 1))), ((ad 3), .inl (cI, 6, .inl (f 2))), ((ad 4), .inl (cI, 6, .inl (f 3))), ((ad 5), .inl (cI, 360, .inl (f 4))), ((ad 6), .inl (cI, 360, .inl (f 5))), ((ad 7), .inl (cI, 2, .inl (f 6))), ((ad 8), .inl (cI, 2, .inl (f 7))), ((ad 9), .inl (cI, 20, .inl (f 8))), ((ad 10), .inl (cI, 20, .inl (f 9))), ((ad 11), .inl (cI, 20, .inl (f 10))), ((ad 12), .inl (cI, 20, .inl (f 11)))]) (wF := (fun uZ => (WX cI ad f lo hi T Dv C))) (kX0_high l D cI ad lo hi p1 p2 (t) (w) (by omega) (by omega) (by omega) (by omega)) ⟨hx, hb, hml, hown, hts⟩ (cwV 2 hts gX1_leastRest_X0_high rfl rfl rfl (by decide +kernel) ⟨Nat.le_of_ble_eq_true rfl, Nat.le_of_ble_eq_true rfl⟩) hK hP hD hS hA [13, 14, 15] [0, 1, 2, 3, 4, 5, 6, 7, 8, 9, 10, 11, 12] [0, 1, 2, 3, 4, 5, 6, 7, 8, 9, 10, 11, 12, 13, 14, 15] rfl (by decide) rfl (by decide) (by decide) (by decide) (fun _ => rfl) rfl rfl rfl rfl hl.1 rfl (Nat.le_of_ble_eq_true rfl) dX1_leastRest_17 ⟨Nat.zero_le _, Nat.zero_le _⟩ (fun r17 u17 H locs q17 hP hD hS => ?_)
  try dsimp only at q17
  have hP : va_P D vwCl (WX cI ad f lo hi T Dv C) H := hP
  have hD : va_D A (WX cI ad f lo hi T Dv C) := hD
  have y17 : r17.toInt = (hi (3 * t + w)).toInt := by rw [q17]
  refine c_isub hx hb dX1_leastRest_20 (by omega) (fun v20 i20 => ?_)
  refine lv_aload_n hx hb dX1_leastRest_21 rfl (lv_at hl 0 rfl) ?_
  refine va_get (D := D) (ci := 1) (v := .ref (ad 13)) (C := RX1) (T := TX1) (N := 16) hx hb hts inX1 hown hK hP 0 rfl rfl 12 (by decide) fl49 (fun _ h9 => h9) rfl dX1_leastRest_22 ?_
  refine c_bipush hx hb dX1_leastRest_25 (by decide) (fun v25 i25 => ?_)
  refine lv_iload_n hx hb dX1_leastRest_27 rfl (lv_at hl 2 rfl) ?_
  refine c_cvi (As := [.int v25, .int p2]) (ci := 0) (q0 := 0) (wr := [((ad 0), .inr (1, [.ref (ad 1), .ref (ad 2), .ref (ad 3), .ref (ad 4), .ref (ad 5), .ref (ad 6), .ref (ad 7), .ref (ad 8), .ref (ad 9), .ref (ad 10), .ref (ad 11), .ref (ad 12), .ref (ad 13), .int T, .int Dv, .int C])), ((ad 1), .inl (cI, 6, .inl (f 0))), ((ad 2), .inl (cI, 6, .inl (f 1))), ((ad 3), .inl (cI, 6, .inl (f 2))), ((ad 4), .inl (cI, 6, .inl (f 3))), ((ad 5), .inl (cI, 360, .inl (f 4))), ((ad 6), .inl (cI, 360, .inl (f 5))), ((ad 7), .inl (cI, 2, .inl (f 6))), ((ad 8), .inl (cI, 2, .inl (f 7))), ((ad 9), .inl (cI, 20, .inl (f 8))), ((ad 10), .inl (cI, 20, .inl (f 9))), ((ad 11), .inl (cI, 20, .inl (f 10))), ((ad 12), .inl (cI, 20, .inl (f 11)))]) (wF := (fun uZ => (WX cI ad f lo hi T Dv C))) (kX0_high l D cI ad lo hi v25 p2 (61) (w) (by omega) (by omega) (by omega) (by omega)) ⟨hx, hb, hml, hown, hts⟩ (cwV 2 hts gX1_leastRest_X0_high rfl rfl rfl (by decide +kernel) ⟨Nat.le_of_ble_eq_true rfl, Nat.le_of_ble_eq_true rfl⟩) hK hP hD hS hA [13, 14, 15] [0, 1, 2, 3, 4, 5, 6, 7, 8, 9, 10, 11, 12] [0, 1, 2, 3, 4, 5, 6, 7, 8, 9, 10, 11, 12, 13, 14, 15] rfl (by decide) rfl (by decide) (by decide) (by decide) (fun _ => rfl) rfl rfl rfl rfl hl.1 rfl (Nat.le_of_ble_eq_true rfl) dX1_leastRest_28 ⟨Nat.zero_le _, Nat.zero_le _⟩ (fun r28 u28 H locs q28 hP hD hS => ?_)
  try dsimp only at q28
  have hP : va_P D vwCl (WX cI ad f lo hi T Dv C) H := hP
  have hD : va_D A (WX cI ad f lo hi T Dv C) := hD
  have y28 : r28.toInt = (hi (3 * 61 + w)).toInt := by rw [q28]
  refine c_isub hx hb dX1_leastRest_31 (by omega) (fun v31 i31 => ?_)
  exact c_ri () hx hb hr hlocks hK hP hD hS dX1_leastRest_32 (by (try dsimp only); omega)
set_option maxHeartbeats 4000000 in
set_option maxRecDepth 100000 in
theorem kX1_mostRest (l : Launch) (D : va_G) (cI : ClassId) (ad : Nat → Nat) (f : Nat → Nat → Int32) (lo : Nat → Int32) (hi : Nat → Int32) (T : Int32) (Dv : Int32) (C : Int32) (Tn : Nat) (Dn : Nat) (Cn : Nat) (p1 : Int32) (p2 : Int32) (t : Nat) (w : Nat) (hT : T.toInt = (Tn : Int)) (hDv : Dv.toInt = (Dn : Int)) (hC : C.toInt = (Cn : Int)) (hI : Inv f Tn Dn Cn) (ht : p1.toInt = (t : Int)) (hw : p2.toInt = (w : Int)) (htn : t < 60) (hw2 : w ≤ 2) (hb1 : bd (rwX lo hi (t + 1)) 1000000) (hb2 : bd (rwX lo hi t) 1000000) (hb3 : bd (rwX lo hi 61) 1000000) : MI l yX1_mostRest wsX1_mostRest ({ frames := 2, cells := 0, slots := 0, locals := 43 } : Room) D [(cI, .int)] [.ref (ad 0), .int p1, .int p2] (WX cI ad f lo hi T Dv C) (fun u : Unit => (WX cI ad f lo hi T Dv C)) (fun (r : Int32) (_ : Unit) => r.toInt = (hi (3 * (t + 1) + w)).toInt - (lo (3 * t + w)).toInt - (lo (3 * 61 + w)).toInt) := by
  refine c_ent (cc := cX1_mostRest) (maxL := 3) (ret := (some .int)) (Qc := fun A => va_Qi (fun (r : Int32) (_ : Unit) => r.toInt = (hi (3 * (t + 1) + w)).toInt - (lo (3 * t + w)).toInt - (lo (3 * 61 + w)).toInt) (cB D [(cI, .int)] A (fun u : Unit => (WX cI ad f lo hi T Dv C))) A) (by decide) rfl (Nat.le_of_ble_eq_true rfl) ?_
  intro p e s m below meth c A ls hx hb hr hlocks hts hown hml hK hP hD hA hl
  have hS : va_S A s.heap s.heap [] := va_S.rf
  have hl : lv_has ls 3 [(0, .ref (ad 0)), (1, .int p1), (2, .int p2)] := hl
  have hP : va_P D vwCl (WX cI ad f lo hi T Dv C) s.heap := hP
  have fl49 := hts (.fieldLink RX1 49 "DoorBench" "spans" "LDoorBench$Spans;") (by decide +kernel)
  have inX1 : ∀ w ∈ wsX10, w ∈ wsX1_mostRest := by decide +kernel
  obtain ⟨hI0, hId, hIr, hIs, hIc⟩ := id hI
  have z1 := bd_at hb1 (k := w) hw2
  have z2 := bd_at hb2 (k := w) hw2
  have z3 := bd_at hb3 (k := w) hw2
  refine lv_aload_n hx hb dX1_mostRest_0 rfl (lv_at hl 0 rfl) ?_
  refine va_get (D := D) (ci := 1) (v := .ref (ad 13)) (C := RX1) (T := TX1) (N := 16) hx hb hts inX1 hown hK hP 0 rfl rfl 12 (by decide) fl49 (fun _ h9 => h9) rfl dX1_mostRest_1 ?_
  refine lv_iload_n hx hb dX1_mostRest_4 rfl (lv_at hl 1 rfl) ?_
  refine c_iconst hx hb dX1_mostRest_5 (by decide) (fun v5 i5 => ?_)
  refine c_iadd hx hb dX1_mostRest_6 (by omega) (fun v6 i6 => ?_)
  refine lv_iload_n hx hb dX1_mostRest_7 rfl (lv_at hl 2 rfl) ?_
  refine c_cvi (As := [.int v6, .int p2]) (ci := 0) (q0 := 0) (wr := [((ad 0), .inr (1, [.ref (ad 1), .ref (ad 2), .ref (ad 3), .ref (ad 4), .ref (ad 5), .ref (ad 6), .ref (ad 7), .ref (ad 8), .ref (ad 9), .ref (ad 10), .ref (ad 11), .ref (ad 12), .ref (ad 13), .int T, .int Dv, .int C])), ((ad 1), .inl (cI, 6, .inl (f 0))), ((ad 2), .inl (cI, 6, .inl (f 1))), ((ad 3), .inl (cI, 6, .inl (f 2))), ((ad 4), .inl (cI, 6, .inl (f 3))), ((ad 5), .inl (cI, 360, .inl (f 4))), ((ad 6), .inl (cI, 360, .inl (f 5))), ((ad 7), .inl (cI, 2, .inl (f 6))), ((ad 8), .inl (cI, 2, .inl (f 7))), ((ad 9), .inl (cI, 20, .inl (f 8))), ((ad 10), .inl (cI, 20, .inl (f 9))), ((ad 11), .inl (cI, 20, .inl (f 10))), ((ad 12), .inl (cI, 20, .inl (f 11)))]) (wF := (fun uZ => (WX cI ad f lo hi T Dv C))) (kX0_high l D cI ad lo hi v6 p2 (t + 1) (w) (by omega) (by omega) (by omega) (by omega)) ⟨hx, hb, hml, hown, hts⟩ (cwV 2 hts gX1_mostRest_X0_high rfl rfl rfl (by decide +kernel) ⟨Nat.le_of_ble_eq_true rfl, Nat.le_of_ble_eq_true rfl⟩) hK hP hD hS hA [13, 14, 15] [0, 1, 2, 3, 4, 5, 6, 7, 8, 9, 10, 11, 12] [0, 1, 2, 3, 4, 5, 6, 7, 8, 9, 10, 11, 12, 13, 14, 15] rfl (by decide) rfl (by decide) (by decide) (by decide) (fun _ => rfl) rfl rfl rfl rfl hl.1 rfl (Nat.le_of_ble_eq_true rfl) dX1_mostRest_8 ⟨Nat.zero_le _, Nat.zero_le _⟩ (fun r8 u8 H locs q8 hP hD hS => ?_)
  try dsimp only at q8
  have hP : va_P D vwCl (WX cI ad f lo hi T Dv C) H := hP
  have hD : va_D A (WX cI ad f lo hi T Dv C) := hD
  have y8 : r8.toInt = (hi (3 * (t + 1) + w)).toInt := by rw [q8]
  refine lv_aload_n hx hb dX1_mostRest_11 rfl (lv_at hl 0 rfl) ?_
  refine va_get (D := D) (ci := 1) (v := .ref (ad 13)) (C := RX1) (T := TX1) (N := 16) hx hb hts inX1 hown hK hP 0 rfl rfl 12 (by decide) fl49 (fun _ h9 => h9) rfl dX1_mostRest_12 ?_
  refine lv_iload_n hx hb dX1_mostRest_15 rfl (lv_at hl 1 rfl) ?_
  refine lv_iload_n hx hb dX1_mostRest_16 rfl (lv_at hl 2 rfl) ?_
  refine c_cvi (As := [.int p1, .int p2]) (ci := 0) (q0 := 0) (wr := [((ad 0), .inr (1, [.ref (ad 1), .ref (ad 2), .ref (ad 3), .ref (ad 4), .ref (ad 5), .ref (ad 6), .ref (ad 7), .ref (ad 8), .ref (ad 9), .ref (ad 10), .ref (ad 11), .ref (ad 12), .ref (ad 13), .int T, .int Dv, .int C])), ((ad 1), .inl (cI, 6, .inl (f 0))), ((ad 2), .inl (cI, 6, .inl (f 1))), ((ad 3), .inl (cI, 6, .inl (f 2))), ((ad 4), .inl (cI, 6, .inl (f 3))), ((ad 5), .inl (cI, 360, .inl (f 4))), ((ad 6), .inl (cI, 360, .inl (f 5))), ((ad 7), .inl (cI, 2, .inl (f 6))), ((ad 8), .inl (cI, 2, .inl (f 7))), ((ad 9), .inl (cI, 20, .inl (f 8))), ((ad 10), .inl (cI, 20, .inl (f 9))), ((ad 11), .inl (cI, 20, .inl (f 10))), ((ad 12), .inl (cI, 20, .inl (f 11)))]) (wF := (fun uZ => (WX cI ad f lo hi T Dv C))) (kX0_low l D cI ad lo hi p1 p2 (t) (w) (by omega) (by omega) (by omega) (by omega)) ⟨hx, hb, hml, hown, hts⟩ (cwV 2 hts gX1_mostRest_X0_low rfl rfl rfl (by decide +kernel) ⟨Nat.le_of_ble_eq_true rfl, Nat.le_of_ble_eq_true rfl⟩) hK hP hD hS hA [13, 14, 15] [0, 1, 2, 3, 4, 5, 6, 7, 8, 9, 10, 11, 12] [0, 1, 2, 3, 4, 5, 6, 7, 8, 9, 10, 11, 12, 13, 14, 15] rfl (by decide) rfl (by decide) (by decide) (by decide) (fun _ => rfl) rfl rfl rfl rfl hl.1 rfl (Nat.le_of_ble_eq_true rfl) dX1_mostRest_17 ⟨Nat.zero_le _, Nat.zero_le _⟩ (fun r17 u17 H locs q17 hP hD hS => ?_)
  try dsimp only at q17
  have hP : va_P D vwCl (WX cI ad f lo hi T Dv C) H := hP
  have hD : va_D A (WX cI ad f lo hi T Dv C) := hD
  have y17 : r17.toInt = (lo (3 * t + w)).toInt := by rw [q17]
  refine c_isub hx hb dX1_mostRest_20 (by omega) (fun v20 i20 => ?_)
  refine lv_aload_n hx hb dX1_mostRest_21 rfl (lv_at hl 0 rfl) ?_
  refine va_get (D := D) (ci := 1) (v := .ref (ad 13)) (C := RX1) (T := TX1) (N := 16) hx hb hts inX1 hown hK hP 0 rfl rfl 12 (by decide) fl49 (fun _ h9 => h9) rfl dX1_mostRest_22 ?_
  refine c_bipush hx hb dX1_mostRest_25 (by decide) (fun v25 i25 => ?_)
  refine lv_iload_n hx hb dX1_mostRest_27 rfl (lv_at hl 2 rfl) ?_
  refine c_cvi (As := [.int v25, .int p2]) (ci := 0) (q0 := 0) (wr := [((ad 0), .inr (1, [.ref (ad 1), .ref (ad 2), .ref (ad 3), .ref (ad 4), .ref (ad 5), .ref (ad 6), .ref (ad 7), .ref (ad 8), .ref (ad 9), .ref (ad 10), .ref (ad 11), .ref (ad 12), .ref (ad 13), .int T, .int Dv, .int C])), ((ad 1), .inl (cI, 6, .inl (f 0))), ((ad 2), .inl (cI, 6, .inl (f 1))), ((ad 3), .inl (cI, 6, .inl (f 2))), ((ad 4), .inl (cI, 6, .inl (f 3))), ((ad 5), .inl (cI, 360, .inl (f 4))), ((ad 6), .inl (cI, 360, .inl (f 5))), ((ad 7), .inl (cI, 2, .inl (f 6))), ((ad 8), .inl (cI, 2, .inl (f 7))), ((ad 9), .inl (cI, 20, .inl (f 8))), ((ad 10), .inl (cI, 20, .inl (f 9))), ((ad 11), .inl (cI, 20, .inl (f 10))), ((ad 12), .inl (cI, 20, .inl (f 11)))]) (wF := (fun uZ => (WX cI ad f lo hi T Dv C))) (kX0_low l D cI ad lo hi v25 p2 (61) (w) (by omega) (by omega) (by omega) (by omega)) ⟨hx, hb, hml, hown, hts⟩ (cwV 2 hts gX1_mostRest_X0_low rfl rfl rfl (by decide +kernel) ⟨Nat.le_of_ble_eq_true rfl, Nat.le_of_ble_eq_true rfl⟩) hK hP hD hS hA [13, 14, 15] [0, 1, 2, 3, 4, 5, 6, 7, 8, 9, 10, 11, 12] [0, 1, 2, 3, 4, 5, 6, 7, 8, 9, 10, 11, 12, 13, 14, 15] rfl (by decide) rfl (by decide) (by decide) (by decide) (fun _ => rfl) rfl rfl rfl rfl hl.1 rfl (Nat.le_of_ble_eq_true rfl) dX1_mostRest_28 ⟨Nat.zero_le _, Nat.zero_le _⟩ (fun r28 u28 H locs q28 hP hD hS => ?_)
  try dsimp only at q28
  have hP : va_P D vwCl (WX cI ad f lo hi T Dv C) H := hP
  have hD : va_D A (WX cI ad f lo hi T Dv C) := hD
  have y28 : r28.toInt = (lo (3 * 61 + w)).toInt := by rw [q28]
  refine c_isub hx hb dX1_mostRest_31 (by omega) (fun v31 i31 => ?_)
  exact c_ri () hx hb hr hlocks hK hP hD hS dX1_mostRest_32 (by (try dsimp only); omega)
set_option maxHeartbeats 4000000 in
set_option maxRecDepth 100000 in
theorem kX1_leastThrough (l : Launch) (D : va_G) (cI : ClassId) (ad : Nat → Nat) (f : Nat → Nat → Int32) (lo : Nat → Int32) (hi : Nat → Int32) (T : Int32) (Dv : Int32) (C : Int32) (Tn : Nat) (Dn : Nat) (Cn : Nat) (p1 : Int32) (p2 : Int32) (d : Nat) (t : Nat) (hT : T.toInt = (Tn : Int)) (hDv : Dv.toInt = (Dn : Int)) (hC : C.toInt = (Cn : Int)) (hI : Inv f Tn Dn Cn) (hd : p1.toInt = (d : Int)) (hdn : d < Dn) (ht : p2.toInt = (t : Int)) (htn : t < Tn) (hb1 : bd (rwX lo hi (t + 1)) 1000000) (hb2 : bd (rwX lo hi t) 1000000) (hb3 : bd (rwX lo hi 61) 1000000) : MI l yX1_leastThrough wsX1_leastThrough ({ frames := 3, cells := 0, slots := 0, locals := 68 } : Room) D [(cI, .int)] [.ref (ad 0), .int p1, .int p2] (WX cI ad f lo hi T Dv C) (fun u : Unit => (WX cI ad f lo hi T Dv C)) (fun (r : Int32) (_ : Unit) => r.toInt = thL (f 0 d).toInt (nLo f d t 0) (rwX lo hi (t + 1)) (rwX lo hi t) (rwX lo hi 61)) := by
  refine c_ent (cc := cX1_leastThrough) (maxL := 4) (ret := (some .int)) (Qc := fun A => va_Qi (fun (r : Int32) (_ : Unit) => r.toInt = thL (f 0 d).toInt (nLo f d t 0) (rwX lo hi (t + 1)) (rwX lo hi t) (rwX lo hi 61)) (cB D [(cI, .int)] A (fun u : Unit => (WX cI ad f lo hi T Dv C))) A) (by decide) rfl (Nat.le_of_ble_eq_true rfl) ?_
  intro p e s m below meth c A ls hx hb hr hlocks hts hown hml hK hP hD hA hl
  have hS : va_S A s.heap s.heap [] := va_S.rf
  have hl : lv_has ls 4 [(0, .ref (ad 0)), (1, .int p1), (2, .int p2)] := hl
  have hP : va_P D vwCl (WX cI ad f lo hi T Dv C) s.heap := hP
  have fl9 := hts (.fieldLink RX1 9 "DoorBench" "kinds" "[I") (by decide +kernel)
  have inX1 : ∀ w ∈ wsX10, w ∈ wsX1_leastThrough := by decide +kernel
  have ml154 := hts (.methodLink RX1 154 Lib.Math.max.name) (by decide +kernel)
  have ms154 := hts (.static Lib.Math.max.name) (by decide +kernel)
  have mi154 := hts (.initialized "java/lang/Math") (by decide +kernel)
  have mc154 := hts (.code Lib.Math.max.name Lib.Math.max.code 2 (some .int)) (by decide +kernel)
  obtain ⟨hI0, hId, hIr, hIs, hIc⟩ := id hI
  have n1 := hId d hdn
  refine lv_aload_n hx hb dX1_leastThrough_0 rfl (lv_at hl 0 rfl) ?_
  refine lv_iload_n hx hb dX1_leastThrough_1 rfl (lv_at hl 1 rfl) ?_
  refine lv_iload_n hx hb dX1_leastThrough_2 rfl (lv_at hl 2 rfl) ?_
  refine c_iconst hx hb dX1_leastThrough_3 (by decide) (fun v3 i3 => ?_)
  refine c_wvi (As := [.int p1, .int p2, .int v3]) (ci := 1) (q0 := 0) (kX1_leastNet l D cI ad f lo hi T Dv C Tn Dn Cn p1 p2 v3 (d) (t) hT hDv hC hI (by omega) (by omega) (by omega) (by omega) (by omega)) ⟨hx, hb, hml, hown, hts⟩ (cwV 3 hts gX1_leastThrough_X1_leastNet rfl rfl rfl (by decide +kernel) ⟨Nat.le_of_ble_eq_true rfl, Nat.le_of_ble_eq_true rfl⟩) hK hP hD hS hA rfl rfl rfl rfl hl.1 rfl (Nat.le_of_ble_eq_true rfl) dX1_leastThrough_4 ⟨Nat.zero_le _, Nat.zero_le _⟩ (fun r4 u4 H locs q4 hP hD hS => ?_)
  try dsimp only at q4
  have hP : va_P D vwCl (WX cI ad f lo hi T Dv C) H := hP
  have hD : va_D A (WX cI ad f lo hi T Dv C) := hD
  rw [i3] at q4
  refine lv_istore_n (lv' := [(3, .int r4), (0, .ref (ad 0)), (1, .int p1), (2, .int p2)]) hx hb dX1_leastThrough_7 rfl hl (by decide) rfl (fun ls hl => ?_)
  refine lv_aload_n hx hb dX1_leastThrough_8 rfl (lv_at hl 1 rfl) ?_
  refine va_get (D := D) (ci := 1) (v := .ref (ad 1)) (C := RX1) (T := TX1) (N := 16) hx hb hts inX1 hown hK hP 0 rfl rfl 0 (by decide) fl9 (fun _ h9 => h9) rfl dX1_leastThrough_9 ?_
  refine lv_iload_n hx hb dX1_leastThrough_12 rfl (lv_at hl 2 rfl) ?_
  refine c_iald hx hb hK hP 1 0 rfl rfl (d) (by omega) (by omega) dX1_leastThrough_13 (fun v13 e13 => ?_)
  have i13 : v13.toInt = ((f 0) (d)).toInt := by rw [e13]
  refine c_if_ne (tgt := 37) hx hb dX1_leastThrough_14 (by decide) (fun c14 => ?_) (fun c14 => ?_)
  · skip
    refine lv_aload_n hx hb dX1_leastThrough_37 rfl (lv_at hl 1 rfl) ?_
    refine va_get (D := D) (ci := 1) (v := .ref (ad 1)) (C := RX1) (T := TX1) (N := 16) hx hb hts inX1 hown hK hP 0 rfl rfl 0 (by decide) fl9 (fun _ h9 => h9) rfl dX1_leastThrough_38 ?_
    refine lv_iload_n hx hb dX1_leastThrough_41 rfl (lv_at hl 2 rfl) ?_
    refine c_iald hx hb hK hP 1 0 rfl rfl (d) (by omega) (by omega) dX1_leastThrough_42 (fun v42 e42 => ?_)
    have i42 : v42.toInt = ((f 0) (d)).toInt := by rw [e42]
    refine c_iconst hx hb dX1_leastThrough_43 (by decide) (fun v43 i43 => ?_)
    refine c_icmp_ne (tgt := 67) hx hb dX1_leastThrough_44 (by decide) (fun c44 => ?_) (fun c44 => ?_)
    · skip
      refine lv_iload_n hx hb dX1_leastThrough_67 rfl (lv_at hl 0 rfl) ?_
      refine lv_aload_n hx hb dX1_leastThrough_68 rfl (lv_at hl 1 rfl) ?_
      refine lv_iload_n hx hb dX1_leastThrough_69 rfl (lv_at hl 3 rfl) ?_
      refine c_iconst hx hb dX1_leastThrough_70 (by decide) (fun v70 i70 => ?_)
      refine c_wvi (As := [.int p2, .int v70]) (ci := 1) (q0 := 0) (kX1_leastRest l D cI ad f lo hi T Dv C Tn Dn Cn p2 v70 (t) (1) hT hDv hC hI (by omega) (by omega) (by omega) (by omega) hb1 hb2 hb3) ⟨hx, hb, hml, hown, hts⟩ (cwV 2 hts gX1_leastThrough_X1_leastRest rfl rfl rfl (by decide +kernel) ⟨Nat.le_of_ble_eq_true rfl, Nat.le_of_ble_eq_true rfl⟩) hK hP hD hS hA rfl rfl rfl rfl hl.1 rfl (Nat.le_of_ble_eq_true rfl) dX1_leastThrough_71 ⟨Nat.zero_le _, Nat.zero_le _⟩ (fun r71 u71 H locs q71 hP hD hS => ?_)
      try dsimp only at q71
      have hP : va_P D vwCl (WX cI ad f lo hi T Dv C) H := hP
      have hD : va_D A (WX cI ad f lo hi T Dv C) := hD
      have y71 : r71.toInt = rwX lo hi (t + 1) 2 - rwX lo hi t 3 - rwX lo hi 61 3 := q71
      refine lv_aload_n hx hb dX1_leastThrough_74 rfl (lv_at hl 1 rfl) ?_
      refine lv_iload_n hx hb dX1_leastThrough_75 rfl (lv_at hl 3 rfl) ?_
      refine c_iconst hx hb dX1_leastThrough_76 (by decide) (fun v76 i76 => ?_)
      refine c_wvi (As := [.int p2, .int v76]) (ci := 1) (q0 := 0) (kX1_mostRest l D cI ad f lo hi T Dv C Tn Dn Cn p2 v76 (t) (0) hT hDv hC hI (by omega) (by omega) (by omega) (by omega) hb1 hb2 hb3) ⟨hx, hb, hml, hown, hts⟩ (cwV 2 hts gX1_leastThrough_X1_mostRest rfl rfl rfl (by decide +kernel) ⟨Nat.le_of_ble_eq_true rfl, Nat.le_of_ble_eq_true rfl⟩) hK hP hD hS hA rfl rfl rfl rfl hl.1 rfl (Nat.le_of_ble_eq_true rfl) dX1_leastThrough_77 ⟨Nat.zero_le _, Nat.zero_le _⟩ (fun r77 u77 H locs q77 hP hD hS => ?_)
      try dsimp only at q77
      have hP : va_P D vwCl (WX cI ad f lo hi T Dv C) H := hP
      have hD : va_D A (WX cI ad f lo hi T Dv C) := hD
      have y77 : r77.toInt = rwX lo hi (t + 1) 1 - rwX lo hi t 0 - rwX lo hi 61 0 := q77
      obtain ⟨z10, z11, z12, z13, z14, z15⟩ := id hb1
      obtain ⟨z20, z21, z22, z23, z24, z25⟩ := id hb2
      obtain ⟨z30, z31, z32, z33, z34, z35⟩ := id hb3
      refine c_ineg hx hb dX1_leastThrough_80 (by omega) (fun v80 i80 => ?_)
      refine c_mmax hx hb (hml.trans hl.1.symm) hown ml154 ms154 mi154 mc154 (Nat.le_of_ble_eq_true rfl) (Nat.le_of_ble_eq_true rfl) (Nat.zero_le _) (Nat.zero_le _) dX1_leastThrough_81 (fun v81 i81 => ?_)
      refine c_mmax hx hb (hml.trans hl.1.symm) hown ml154 ms154 mi154 mc154 (Nat.le_of_ble_eq_true rfl) (Nat.le_of_ble_eq_true rfl) (Nat.zero_le _) (Nat.zero_le _) dX1_leastThrough_84 (fun v84 i84 => ?_)
      exact c_ri () hx hb hr hlocks hK hP hD hS dX1_leastThrough_87 (by (try dsimp only); unfold thL; rw [if_neg (by omega), if_neg (by omega), i84, i81, i80, y71, y77, q4])
    · skip
      refine lv_iload_n hx hb dX1_leastThrough_47 rfl (lv_at hl 0 rfl) ?_
      refine lv_aload_n hx hb dX1_leastThrough_48 rfl (lv_at hl 1 rfl) ?_
      refine lv_iload_n hx hb dX1_leastThrough_49 rfl (lv_at hl 3 rfl) ?_
      refine c_iconst hx hb dX1_leastThrough_50 (by decide) (fun v50 i50 => ?_)
      refine c_wvi (As := [.int p2, .int v50]) (ci := 1) (q0 := 0) (kX1_leastRest l D cI ad f lo hi T Dv C Tn Dn Cn p2 v50 (t) (1) hT hDv hC hI (by omega) (by omega) (by omega) (by omega) hb1 hb2 hb3) ⟨hx, hb, hml, hown, hts⟩ (cwV 2 hts gX1_leastThrough_X1_leastRest rfl rfl rfl (by decide +kernel) ⟨Nat.le_of_ble_eq_true rfl, Nat.le_of_ble_eq_true rfl⟩) hK hP hD hS hA rfl rfl rfl rfl hl.1 rfl (Nat.le_of_ble_eq_true rfl) dX1_leastThrough_51 ⟨Nat.zero_le _, Nat.zero_le _⟩ (fun r51 u51 H locs q51 hP hD hS => ?_)
      try dsimp only at q51
      have hP : va_P D vwCl (WX cI ad f lo hi T Dv C) H := hP
      have hD : va_D A (WX cI ad f lo hi T Dv C) := hD
      have y51 : r51.toInt = rwX lo hi (t + 1) 2 - rwX lo hi t 3 - rwX lo hi 61 3 := q51
      refine lv_aload_n hx hb dX1_leastThrough_54 rfl (lv_at hl 1 rfl) ?_
      refine lv_iload_n hx hb dX1_leastThrough_55 rfl (lv_at hl 3 rfl) ?_
      refine c_iconst hx hb dX1_leastThrough_56 (by decide) (fun v56 i56 => ?_)
      refine c_wvi (As := [.int p2, .int v56]) (ci := 1) (q0 := 0) (kX1_leastRest l D cI ad f lo hi T Dv C Tn Dn Cn p2 v56 (t) (2) hT hDv hC hI (by omega) (by omega) (by omega) (by omega) hb1 hb2 hb3) ⟨hx, hb, hml, hown, hts⟩ (cwV 2 hts gX1_leastThrough_X1_leastRest rfl rfl rfl (by decide +kernel) ⟨Nat.le_of_ble_eq_true rfl, Nat.le_of_ble_eq_true rfl⟩) hK hP hD hS hA rfl rfl rfl rfl hl.1 rfl (Nat.le_of_ble_eq_true rfl) dX1_leastThrough_57 ⟨Nat.zero_le _, Nat.zero_le _⟩ (fun r57 u57 H locs q57 hP hD hS => ?_)
      try dsimp only at q57
      have hP : va_P D vwCl (WX cI ad f lo hi T Dv C) H := hP
      have hD : va_D A (WX cI ad f lo hi T Dv C) := hD
      have y57 : r57.toInt = rwX lo hi (t + 1) 4 - rwX lo hi t 5 - rwX lo hi 61 5 := q57
      refine c_mmax hx hb (hml.trans hl.1.symm) hown ml154 ms154 mi154 mc154 (Nat.le_of_ble_eq_true rfl) (Nat.le_of_ble_eq_true rfl) (Nat.zero_le _) (Nat.zero_le _) dX1_leastThrough_60 (fun v60 i60 => ?_)
      refine c_mmax hx hb (hml.trans hl.1.symm) hown ml154 ms154 mi154 mc154 (Nat.le_of_ble_eq_true rfl) (Nat.le_of_ble_eq_true rfl) (Nat.zero_le _) (Nat.zero_le _) dX1_leastThrough_63 (fun v63 i63 => ?_)
      exact c_ri () hx hb hr hlocks hK hP hD hS dX1_leastThrough_66 (by (try dsimp only); unfold thL; rw [if_neg (by omega), if_pos (by omega), i63, i60, y51, y57, q4])
  · skip
    refine lv_iload_n hx hb dX1_leastThrough_17 rfl (lv_at hl 0 rfl) ?_
    refine lv_aload_n hx hb dX1_leastThrough_18 rfl (lv_at hl 1 rfl) ?_
    refine lv_iload_n hx hb dX1_leastThrough_19 rfl (lv_at hl 3 rfl) ?_
    refine c_iconst hx hb dX1_leastThrough_20 (by decide) (fun v20 i20 => ?_)
    refine c_wvi (As := [.int p2, .int v20]) (ci := 1) (q0 := 0) (kX1_leastRest l D cI ad f lo hi T Dv C Tn Dn Cn p2 v20 (t) (0) hT hDv hC hI (by omega) (by omega) (by omega) (by omega) hb1 hb2 hb3) ⟨hx, hb, hml, hown, hts⟩ (cwV 2 hts gX1_leastThrough_X1_leastRest rfl rfl rfl (by decide +kernel) ⟨Nat.le_of_ble_eq_true rfl, Nat.le_of_ble_eq_true rfl⟩) hK hP hD hS hA rfl rfl rfl rfl hl.1 rfl (Nat.le_of_ble_eq_true rfl) dX1_leastThrough_21 ⟨Nat.zero_le _, Nat.zero_le _⟩ (fun r21 u21 H locs q21 hP hD hS => ?_)
    try dsimp only at q21
    have hP : va_P D vwCl (WX cI ad f lo hi T Dv C) H := hP
    have hD : va_D A (WX cI ad f lo hi T Dv C) := hD
    have y21 : r21.toInt = rwX lo hi (t + 1) 0 - rwX lo hi t 1 - rwX lo hi 61 1 := q21
    refine lv_aload_n hx hb dX1_leastThrough_24 rfl (lv_at hl 1 rfl) ?_
    refine lv_iload_n hx hb dX1_leastThrough_25 rfl (lv_at hl 3 rfl) ?_
    refine c_iconst hx hb dX1_leastThrough_26 (by decide) (fun v26 i26 => ?_)
    refine c_wvi (As := [.int p2, .int v26]) (ci := 1) (q0 := 0) (kX1_leastRest l D cI ad f lo hi T Dv C Tn Dn Cn p2 v26 (t) (2) hT hDv hC hI (by omega) (by omega) (by omega) (by omega) hb1 hb2 hb3) ⟨hx, hb, hml, hown, hts⟩ (cwV 2 hts gX1_leastThrough_X1_leastRest rfl rfl rfl (by decide +kernel) ⟨Nat.le_of_ble_eq_true rfl, Nat.le_of_ble_eq_true rfl⟩) hK hP hD hS hA rfl rfl rfl rfl hl.1 rfl (Nat.le_of_ble_eq_true rfl) dX1_leastThrough_27 ⟨Nat.zero_le _, Nat.zero_le _⟩ (fun r27 u27 H locs q27 hP hD hS => ?_)
    try dsimp only at q27
    have hP : va_P D vwCl (WX cI ad f lo hi T Dv C) H := hP
    have hD : va_D A (WX cI ad f lo hi T Dv C) := hD
    have y27 : r27.toInt = rwX lo hi (t + 1) 4 - rwX lo hi t 5 - rwX lo hi 61 5 := q27
    refine c_mmax hx hb (hml.trans hl.1.symm) hown ml154 ms154 mi154 mc154 (Nat.le_of_ble_eq_true rfl) (Nat.le_of_ble_eq_true rfl) (Nat.zero_le _) (Nat.zero_le _) dX1_leastThrough_30 (fun v30 i30 => ?_)
    refine c_mmax hx hb (hml.trans hl.1.symm) hown ml154 ms154 mi154 mc154 (Nat.le_of_ble_eq_true rfl) (Nat.le_of_ble_eq_true rfl) (Nat.zero_le _) (Nat.zero_le _) dX1_leastThrough_33 (fun v33 i33 => ?_)
    exact c_ri () hx hb hr hlocks hK hP hD hS dX1_leastThrough_36 (by (try dsimp only); unfold thL; rw [if_pos (by omega), i33, i30, y21, y27, q4])
set_option maxHeartbeats 4000000 in
set_option maxRecDepth 100000 in
theorem kX1_mostThrough (l : Launch) (D : va_G) (cI : ClassId) (ad : Nat → Nat) (f : Nat → Nat → Int32) (lo : Nat → Int32) (hi : Nat → Int32) (T : Int32) (Dv : Int32) (C : Int32) (Tn : Nat) (Dn : Nat) (Cn : Nat) (p1 : Int32) (p2 : Int32) (d : Nat) (t : Nat) (hT : T.toInt = (Tn : Int)) (hDv : Dv.toInt = (Dn : Int)) (hC : C.toInt = (Cn : Int)) (hI : Inv f Tn Dn Cn) (hd : p1.toInt = (d : Int)) (hdn : d < Dn) (ht : p2.toInt = (t : Int)) (htn : t < Tn) (hb1 : bd (rwX lo hi (t + 1)) 1000000) (hb2 : bd (rwX lo hi t) 1000000) (hb3 : bd (rwX lo hi 61) 1000000) : MI l yX1_mostThrough wsX1_mostThrough ({ frames := 3, cells := 0, slots := 0, locals := 68 } : Room) D [(cI, .int)] [.ref (ad 0), .int p1, .int p2] (WX cI ad f lo hi T Dv C) (fun u : Unit => (WX cI ad f lo hi T Dv C)) (fun (r : Int32) (_ : Unit) => r.toInt = thH (f 0 d).toInt (nHi f d t 0) (rwX lo hi (t + 1)) (rwX lo hi t) (rwX lo hi 61)) := by
  refine c_ent (cc := cX1_mostThrough) (maxL := 4) (ret := (some .int)) (Qc := fun A => va_Qi (fun (r : Int32) (_ : Unit) => r.toInt = thH (f 0 d).toInt (nHi f d t 0) (rwX lo hi (t + 1)) (rwX lo hi t) (rwX lo hi 61)) (cB D [(cI, .int)] A (fun u : Unit => (WX cI ad f lo hi T Dv C))) A) (by decide) rfl (Nat.le_of_ble_eq_true rfl) ?_
  intro p e s m below meth c A ls hx hb hr hlocks hts hown hml hK hP hD hA hl
  have hS : va_S A s.heap s.heap [] := va_S.rf
  have hl : lv_has ls 4 [(0, .ref (ad 0)), (1, .int p1), (2, .int p2)] := hl
  have hP : va_P D vwCl (WX cI ad f lo hi T Dv C) s.heap := hP
  have fl9 := hts (.fieldLink RX1 9 "DoorBench" "kinds" "[I") (by decide +kernel)
  have inX1 : ∀ w ∈ wsX10, w ∈ wsX1_mostThrough := by decide +kernel
  have ml205 := hts (.methodLink RX1 205 Lib.Math.min.name) (by decide +kernel)
  have ms205 := hts (.static Lib.Math.min.name) (by decide +kernel)
  have mi205 := hts (.initialized "java/lang/Math") (by decide +kernel)
  have mc205 := hts (.code Lib.Math.min.name Lib.Math.min.code 2 (some .int)) (by decide +kernel)
  obtain ⟨hI0, hId, hIr, hIs, hIc⟩ := id hI
  have n1 := hId d hdn
  refine lv_aload_n hx hb dX1_mostThrough_0 rfl (lv_at hl 0 rfl) ?_
  refine lv_iload_n hx hb dX1_mostThrough_1 rfl (lv_at hl 1 rfl) ?_
  refine lv_iload_n hx hb dX1_mostThrough_2 rfl (lv_at hl 2 rfl) ?_
  refine c_iconst hx hb dX1_mostThrough_3 (by decide) (fun v3 i3 => ?_)
  refine c_wvi (As := [.int p1, .int p2, .int v3]) (ci := 1) (q0 := 0) (kX1_mostNet l D cI ad f lo hi T Dv C Tn Dn Cn p1 p2 v3 (d) (t) hT hDv hC hI (by omega) (by omega) (by omega) (by omega) (by omega)) ⟨hx, hb, hml, hown, hts⟩ (cwV 3 hts gX1_mostThrough_X1_mostNet rfl rfl rfl (by decide +kernel) ⟨Nat.le_of_ble_eq_true rfl, Nat.le_of_ble_eq_true rfl⟩) hK hP hD hS hA rfl rfl rfl rfl hl.1 rfl (Nat.le_of_ble_eq_true rfl) dX1_mostThrough_4 ⟨Nat.zero_le _, Nat.zero_le _⟩ (fun r4 u4 H locs q4 hP hD hS => ?_)
  try dsimp only at q4
  have hP : va_P D vwCl (WX cI ad f lo hi T Dv C) H := hP
  have hD : va_D A (WX cI ad f lo hi T Dv C) := hD
  rw [i3] at q4
  refine lv_istore_n (lv' := [(3, .int r4), (0, .ref (ad 0)), (1, .int p1), (2, .int p2)]) hx hb dX1_mostThrough_7 rfl hl (by decide) rfl (fun ls hl => ?_)
  refine lv_aload_n hx hb dX1_mostThrough_8 rfl (lv_at hl 1 rfl) ?_
  refine va_get (D := D) (ci := 1) (v := .ref (ad 1)) (C := RX1) (T := TX1) (N := 16) hx hb hts inX1 hown hK hP 0 rfl rfl 0 (by decide) fl9 (fun _ h9 => h9) rfl dX1_mostThrough_9 ?_
  refine lv_iload_n hx hb dX1_mostThrough_12 rfl (lv_at hl 2 rfl) ?_
  refine c_iald hx hb hK hP 1 0 rfl rfl (d) (by omega) (by omega) dX1_mostThrough_13 (fun v13 e13 => ?_)
  have i13 : v13.toInt = ((f 0) (d)).toInt := by rw [e13]
  refine c_if_ne (tgt := 37) hx hb dX1_mostThrough_14 (by decide) (fun c14 => ?_) (fun c14 => ?_)
  · skip
    refine lv_aload_n hx hb dX1_mostThrough_37 rfl (lv_at hl 1 rfl) ?_
    refine va_get (D := D) (ci := 1) (v := .ref (ad 1)) (C := RX1) (T := TX1) (N := 16) hx hb hts inX1 hown hK hP 0 rfl rfl 0 (by decide) fl9 (fun _ h9 => h9) rfl dX1_mostThrough_38 ?_
    refine lv_iload_n hx hb dX1_mostThrough_41 rfl (lv_at hl 2 rfl) ?_
    refine c_iald hx hb hK hP 1 0 rfl rfl (d) (by omega) (by omega) dX1_mostThrough_42 (fun v42 e42 => ?_)
    have i42 : v42.toInt = ((f 0) (d)).toInt := by rw [e42]
    refine c_iconst hx hb dX1_mostThrough_43 (by decide) (fun v43 i43 => ?_)
    refine c_icmp_ne (tgt := 67) hx hb dX1_mostThrough_44 (by decide) (fun c44 => ?_) (fun c44 => ?_)
    · skip
      refine lv_iload_n hx hb dX1_mostThrough_67 rfl (lv_at hl 0 rfl) ?_
      refine lv_aload_n hx hb dX1_mostThrough_68 rfl (lv_at hl 1 rfl) ?_
      refine lv_iload_n hx hb dX1_mostThrough_69 rfl (lv_at hl 3 rfl) ?_
      refine c_iconst hx hb dX1_mostThrough_70 (by decide) (fun v70 i70 => ?_)
      refine c_wvi (As := [.int p2, .int v70]) (ci := 1) (q0 := 0) (kX1_mostRest l D cI ad f lo hi T Dv C Tn Dn Cn p2 v70 (t) (1) hT hDv hC hI (by omega) (by omega) (by omega) (by omega) hb1 hb2 hb3) ⟨hx, hb, hml, hown, hts⟩ (cwV 2 hts gX1_mostThrough_X1_mostRest rfl rfl rfl (by decide +kernel) ⟨Nat.le_of_ble_eq_true rfl, Nat.le_of_ble_eq_true rfl⟩) hK hP hD hS hA rfl rfl rfl rfl hl.1 rfl (Nat.le_of_ble_eq_true rfl) dX1_mostThrough_71 ⟨Nat.zero_le _, Nat.zero_le _⟩ (fun r71 u71 H locs q71 hP hD hS => ?_)
      try dsimp only at q71
      have hP : va_P D vwCl (WX cI ad f lo hi T Dv C) H := hP
      have hD : va_D A (WX cI ad f lo hi T Dv C) := hD
      have y71 : r71.toInt = rwX lo hi (t + 1) 3 - rwX lo hi t 2 - rwX lo hi 61 2 := q71
      refine lv_aload_n hx hb dX1_mostThrough_74 rfl (lv_at hl 1 rfl) ?_
      refine lv_iload_n hx hb dX1_mostThrough_75 rfl (lv_at hl 3 rfl) ?_
      refine c_iconst hx hb dX1_mostThrough_76 (by decide) (fun v76 i76 => ?_)
      refine c_wvi (As := [.int p2, .int v76]) (ci := 1) (q0 := 0) (kX1_leastRest l D cI ad f lo hi T Dv C Tn Dn Cn p2 v76 (t) (0) hT hDv hC hI (by omega) (by omega) (by omega) (by omega) hb1 hb2 hb3) ⟨hx, hb, hml, hown, hts⟩ (cwV 2 hts gX1_mostThrough_X1_leastRest rfl rfl rfl (by decide +kernel) ⟨Nat.le_of_ble_eq_true rfl, Nat.le_of_ble_eq_true rfl⟩) hK hP hD hS hA rfl rfl rfl rfl hl.1 rfl (Nat.le_of_ble_eq_true rfl) dX1_mostThrough_77 ⟨Nat.zero_le _, Nat.zero_le _⟩ (fun r77 u77 H locs q77 hP hD hS => ?_)
      try dsimp only at q77
      have hP : va_P D vwCl (WX cI ad f lo hi T Dv C) H := hP
      have hD : va_D A (WX cI ad f lo hi T Dv C) := hD
      have y77 : r77.toInt = rwX lo hi (t + 1) 0 - rwX lo hi t 1 - rwX lo hi 61 1 := q77
      obtain ⟨z10, z11, z12, z13, z14, z15⟩ := id hb1
      obtain ⟨z20, z21, z22, z23, z24, z25⟩ := id hb2
      obtain ⟨z30, z31, z32, z33, z34, z35⟩ := id hb3
      refine c_ineg hx hb dX1_mostThrough_80 (by omega) (fun v80 i80 => ?_)
      refine c_mmin hx hb (hml.trans hl.1.symm) hown ml205 ms205 mi205 mc205 (Nat.le_of_ble_eq_true rfl) (Nat.le_of_ble_eq_true rfl) (Nat.zero_le _) (Nat.zero_le _) dX1_mostThrough_81 (fun v81 i81 => ?_)
      refine c_mmin hx hb (hml.trans hl.1.symm) hown ml205 ms205 mi205 mc205 (Nat.le_of_ble_eq_true rfl) (Nat.le_of_ble_eq_true rfl) (Nat.zero_le _) (Nat.zero_le _) dX1_mostThrough_84 (fun v84 i84 => ?_)
      exact c_ri () hx hb hr hlocks hK hP hD hS dX1_mostThrough_87 (by (try dsimp only); unfold thH; rw [if_neg (by omega), if_neg (by omega), i84, i81, i80, y71, y77, q4])
    · skip
      refine lv_iload_n hx hb dX1_mostThrough_47 rfl (lv_at hl 0 rfl) ?_
      refine lv_aload_n hx hb dX1_mostThrough_48 rfl (lv_at hl 1 rfl) ?_
      refine lv_iload_n hx hb dX1_mostThrough_49 rfl (lv_at hl 3 rfl) ?_
      refine c_iconst hx hb dX1_mostThrough_50 (by decide) (fun v50 i50 => ?_)
      refine c_wvi (As := [.int p2, .int v50]) (ci := 1) (q0 := 0) (kX1_mostRest l D cI ad f lo hi T Dv C Tn Dn Cn p2 v50 (t) (1) hT hDv hC hI (by omega) (by omega) (by omega) (by omega) hb1 hb2 hb3) ⟨hx, hb, hml, hown, hts⟩ (cwV 2 hts gX1_mostThrough_X1_mostRest rfl rfl rfl (by decide +kernel) ⟨Nat.le_of_ble_eq_true rfl, Nat.le_of_ble_eq_true rfl⟩) hK hP hD hS hA rfl rfl rfl rfl hl.1 rfl (Nat.le_of_ble_eq_true rfl) dX1_mostThrough_51 ⟨Nat.zero_le _, Nat.zero_le _⟩ (fun r51 u51 H locs q51 hP hD hS => ?_)
      try dsimp only at q51
      have hP : va_P D vwCl (WX cI ad f lo hi T Dv C) H := hP
      have hD : va_D A (WX cI ad f lo hi T Dv C) := hD
      have y51 : r51.toInt = rwX lo hi (t + 1) 3 - rwX lo hi t 2 - rwX lo hi 61 2 := q51
      refine lv_aload_n hx hb dX1_mostThrough_54 rfl (lv_at hl 1 rfl) ?_
      refine lv_iload_n hx hb dX1_mostThrough_55 rfl (lv_at hl 3 rfl) ?_
      refine c_iconst hx hb dX1_mostThrough_56 (by decide) (fun v56 i56 => ?_)
      refine c_wvi (As := [.int p2, .int v56]) (ci := 1) (q0 := 0) (kX1_mostRest l D cI ad f lo hi T Dv C Tn Dn Cn p2 v56 (t) (2) hT hDv hC hI (by omega) (by omega) (by omega) (by omega) hb1 hb2 hb3) ⟨hx, hb, hml, hown, hts⟩ (cwV 2 hts gX1_mostThrough_X1_mostRest rfl rfl rfl (by decide +kernel) ⟨Nat.le_of_ble_eq_true rfl, Nat.le_of_ble_eq_true rfl⟩) hK hP hD hS hA rfl rfl rfl rfl hl.1 rfl (Nat.le_of_ble_eq_true rfl) dX1_mostThrough_57 ⟨Nat.zero_le _, Nat.zero_le _⟩ (fun r57 u57 H locs q57 hP hD hS => ?_)
      try dsimp only at q57
      have hP : va_P D vwCl (WX cI ad f lo hi T Dv C) H := hP
      have hD : va_D A (WX cI ad f lo hi T Dv C) := hD
      have y57 : r57.toInt = rwX lo hi (t + 1) 5 - rwX lo hi t 4 - rwX lo hi 61 4 := q57
      refine c_mmin hx hb (hml.trans hl.1.symm) hown ml205 ms205 mi205 mc205 (Nat.le_of_ble_eq_true rfl) (Nat.le_of_ble_eq_true rfl) (Nat.zero_le _) (Nat.zero_le _) dX1_mostThrough_60 (fun v60 i60 => ?_)
      refine c_mmin hx hb (hml.trans hl.1.symm) hown ml205 ms205 mi205 mc205 (Nat.le_of_ble_eq_true rfl) (Nat.le_of_ble_eq_true rfl) (Nat.zero_le _) (Nat.zero_le _) dX1_mostThrough_63 (fun v63 i63 => ?_)
      exact c_ri () hx hb hr hlocks hK hP hD hS dX1_mostThrough_66 (by (try dsimp only); unfold thH; rw [if_neg (by omega), if_pos (by omega), i63, i60, y51, y57, q4])
  · skip
    refine lv_iload_n hx hb dX1_mostThrough_17 rfl (lv_at hl 0 rfl) ?_
    refine lv_aload_n hx hb dX1_mostThrough_18 rfl (lv_at hl 1 rfl) ?_
    refine lv_iload_n hx hb dX1_mostThrough_19 rfl (lv_at hl 3 rfl) ?_
    refine c_iconst hx hb dX1_mostThrough_20 (by decide) (fun v20 i20 => ?_)
    refine c_wvi (As := [.int p2, .int v20]) (ci := 1) (q0 := 0) (kX1_mostRest l D cI ad f lo hi T Dv C Tn Dn Cn p2 v20 (t) (0) hT hDv hC hI (by omega) (by omega) (by omega) (by omega) hb1 hb2 hb3) ⟨hx, hb, hml, hown, hts⟩ (cwV 2 hts gX1_mostThrough_X1_mostRest rfl rfl rfl (by decide +kernel) ⟨Nat.le_of_ble_eq_true rfl, Nat.le_of_ble_eq_true rfl⟩) hK hP hD hS hA rfl rfl rfl rfl hl.1 rfl (Nat.le_of_ble_eq_true rfl) dX1_mostThrough_21 ⟨Nat.zero_le _, Nat.zero_le _⟩ (fun r21 u21 H locs q21 hP hD hS => ?_)
    try dsimp only at q21
    have hP : va_P D vwCl (WX cI ad f lo hi T Dv C) H := hP
    have hD : va_D A (WX cI ad f lo hi T Dv C) := hD
    have y21 : r21.toInt = rwX lo hi (t + 1) 1 - rwX lo hi t 0 - rwX lo hi 61 0 := q21
    refine lv_aload_n hx hb dX1_mostThrough_24 rfl (lv_at hl 1 rfl) ?_
    refine lv_iload_n hx hb dX1_mostThrough_25 rfl (lv_at hl 3 rfl) ?_
    refine c_iconst hx hb dX1_mostThrough_26 (by decide) (fun v26 i26 => ?_)
    refine c_wvi (As := [.int p2, .int v26]) (ci := 1) (q0 := 0) (kX1_mostRest l D cI ad f lo hi T Dv C Tn Dn Cn p2 v26 (t) (2) hT hDv hC hI (by omega) (by omega) (by omega) (by omega) hb1 hb2 hb3) ⟨hx, hb, hml, hown, hts⟩ (cwV 2 hts gX1_mostThrough_X1_mostRest rfl rfl rfl (by decide +kernel) ⟨Nat.le_of_ble_eq_true rfl, Nat.le_of_ble_eq_true rfl⟩) hK hP hD hS hA rfl rfl rfl rfl hl.1 rfl (Nat.le_of_ble_eq_true rfl) dX1_mostThrough_27 ⟨Nat.zero_le _, Nat.zero_le _⟩ (fun r27 u27 H locs q27 hP hD hS => ?_)
    try dsimp only at q27
    have hP : va_P D vwCl (WX cI ad f lo hi T Dv C) H := hP
    have hD : va_D A (WX cI ad f lo hi T Dv C) := hD
    have y27 : r27.toInt = rwX lo hi (t + 1) 5 - rwX lo hi t 4 - rwX lo hi 61 4 := q27
    refine c_mmin hx hb (hml.trans hl.1.symm) hown ml205 ms205 mi205 mc205 (Nat.le_of_ble_eq_true rfl) (Nat.le_of_ble_eq_true rfl) (Nat.zero_le _) (Nat.zero_le _) dX1_mostThrough_30 (fun v30 i30 => ?_)
    refine c_mmin hx hb (hml.trans hl.1.symm) hown ml205 ms205 mi205 mc205 (Nat.le_of_ble_eq_true rfl) (Nat.le_of_ble_eq_true rfl) (Nat.zero_le _) (Nat.zero_le _) dX1_mostThrough_33 (fun v33 i33 => ?_)
    exact c_ri () hx hb hr hlocks hK hP hD hS dX1_mostThrough_36 (by (try dsimp only); unfold thH; rw [if_pos (by omega), i33, i30, y21, y27, q4])
end
