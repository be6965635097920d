/-! 'throw new NoSuchElementException(text)': her constructor passes on by index 13, not 7. These rows walk that chain where no stack trace is kept: they name the laws of the library that BundleOwnThrow.lean's walk names, with another first link. -/
abbrev eI : String := "java/lang/IndexOutOfBoundsException"
abbrev eN : String := "java/util/NoSuchElementException"
abbrev eNs : List String := ["java/lang/RuntimeException", "java/lang/Exception"]
def rN : ByteArray := ⟨#[42, 43, 183, 0, 13, 177]⟩
abbrev eR : String := "java/lang/RuntimeException"
def nO : List Cond := (Bundle.ownAtoms RX1 104 eN eNs).drop (Bundle.throwableAtoms ++ Bundle.throwableSAtoms ++ Bundle.chainSAtoms eN eNs).length
def nA : List Cond := Bundle.throwableAtoms ++ Bundle.throwableSAtoms ++ (Bundle.passSAtoms eN eR 13 rN ++ Bundle.chainSAtoms eR ["java/lang/Exception"]) ++ nO
def nW : List Cond := nA.filter vx_no
theorem nA_thr : ∀ x ∈ Bundle.throwableAtoms, x ∈ nA := fun _ hx => List.mem_append_left _ (List.mem_append_left _ (List.mem_append_left _ hx))
theorem nA_msg : ∀ x ∈ Bundle.throwableSAtoms, x ∈ nA := fun _ hx => List.mem_append_left _ (List.mem_append_left _ (List.mem_append_right _ hx))
theorem nA_p1 : ∀ x ∈ Bundle.passSAtoms eN eR 13 rN, x ∈ nA := fun _ hx => List.mem_append_left _ (List.mem_append_right _ (List.mem_append_left _ hx))
theorem nA_p2 : ∀ x ∈ Bundle.chainSAtoms eR ["java/lang/Exception"], x ∈ nA := fun _ hx => List.mem_append_left _ (List.mem_append_right _ (List.mem_append_right _ hx))
theorem nA_own : ∀ x ∈ [Cond.methodLink RX1 104 (Bundle.initS eN), .instantiable eN 6, .selects eN Bundle.tFill0 Bundle.tFill0, .selects eN Bundle.tFill Bundle.tFill, .lays eN Bundle.tN "cause" "Ljava/lang/Throwable;", .lays eN Bundle.tN "stackTrace" Bundle.steD, .lays eN Bundle.tN "suppressedExceptions" Bundle.listD, .lays eN Bundle.tN "detailMessage" "Ljava/lang/String;", .isRef (.static Bundle.tN "UNASSIGNED_STACK" Bundle.steD), .isRef (.static Bundle.tN "SUPPRESSED_SENTINEL" Bundle.listD), .fieldLink Bundle.tN 198 Bundle.tN "backtrace" "Ljava/lang/Object;", .lays Bundle.tN Bundle.tN "backtrace" "Ljava/lang/Object;", .lays eN Bundle.tN "backtrace" "Ljava/lang/Object;", .instanceMethod (Bundle.initS eN), .code (Bundle.initS eN) rN 2 none], x ∈ nA := by decide +kernel
section NX
variable {p : Program} {l : Launch} {e : Env} {R : Room} {s : State} {m : MethodId} {args : Array Value} {below : List Frame} {meth : Method} {c : Code} {W0 : State} {cells slots : Nat}
set_option maxHeartbeats 2000000 in
theorem nx_ctor (X : Stand p l e R s m args below meth c W0 [] cells slots) (hexec : p.tables.exec = Jvm.exec) (htr : e.platform.stackTraces = false) (hown : s.vm.findClass RX1 = some m.cls) (h : ∀ w ∈ nA, w.before args s = true)
    {a : Addr} {cX : ClassId} {kX : Class} (hfX : s.vm.findClass eN = some cX) (hkX : s.vm.classes[cX]? = some kX) (hcell : W0.heap[a]? = some (freshCell cX kX)) (hnew : s.heap.size ≤ a) {v : Value} (hv : v.isRef = true)
    {g : JFrame} (hg : g.method = m) (hsize : g.locals.size = c.maxLocals) (hlk : g.locked = none) (hen : g.entered = []) {rest : List Value} (hst : g.stack = v :: .ref a :: .ref a :: rest)
    (d6 : decode c.code g.pc = .ok (.invokespecial 104, 3)) (d9 : decode c.code (g.pc + 3) = .ok (.athrow, 1)) (hout : ∀ x ∈ c.exceptionTable.toList, covers x (g.pc + 3) = false)
    (hR1 : 5 < R.frames) (hR2 : 2 * g.monitorRoom + ((Value.ref a :: rest).map fun v => v.category).sum + 81 ≤ R.locals) (hlocks : meth.locks = false) :
    ∃ U : State, Steps p.tables e below (W0.setTop g) U ∧ U.status = .running ∧ Ended U below (.threw a) ∧ s.WarmedH U.vm ∧ s.sameButNew ({ U with vm := s.vm } : State) [] cells slots ∧ ∃ ce, U.heap[a]? = some ce ∧ ce.vm = .none ∧ ce.cls = cX := by
  have hmag : e.platform.magicAccessors = ({} : Platform).magicAccessors := by rw [X.admits.platform]
  have wd : ∀ x, x ∈ nA → x.holds args s none s [] = true := fun x hx => h x hx
  obtain ⟨T, Z0, L, -, Y⟩ := ThrowableC.of_atoms (args := args) (s := s) (pl := e.platform) (by rw [X.admits.platform]) (by rw [X.admits.platform]) hmag (fun x hx => h x (nA_thr x hx))
  obtain ⟨Z, M, LZ, LM, hnZ⟩ := Init0T.ofS_atoms (args := args) hmag L Y (fun x hx => h x (nA_msg x hx))
  obtain ⟨P1, L1, hP1, hs1⟩ := PassC.ofS_atoms (args := args) (s := s) hmag (X := eN) (Y := eR) (index := 13) (bytes := rN) (by decide +kernel) (by decide +kernel) (by decide +kernel) (by decide +kernel) (by decide +kernel) (by decide +kernel) (fun x hx => h x (nA_p1 x hx))
  obtain ⟨P2, Ps, hlen, L2, hL, hP2, hk2, hks⟩ := Bundle.chainS (args := args) (s := s) hmag hnZ ["java/lang/Exception"] eR (by decide +kernel) (by decide +kernel) (fun x hx => h x (nA_p2 x hx))
  have hk1 : P1.sup = P2.m := Option.some.inj (hs1.symm.trans hP2)
  have hlen2 : Ps.length = 1 := hlen
  obtain rfl : cX = P1.m.cls := Option.some.inj (hfX.symm.trans (findClass_of_methodNamed hP1))
  obtain ⟨c1, k1, hc1, hk, hord, -, -, -⟩ := Cond.instantiable_spec (wd (.instantiable eN 6) (nA_own _ (by decide +kernel)))
  obtain rfl := Option.some.inj (hc1.symm.trans hfX)
  obtain rfl := Option.some.inj (hkX.symm.trans hk)
  have hsel : ∀ {n : MethodName} {k : MethodId}, s.methodNamed? n = some k → s.methodFound? n.cls n.name n.desc = some k → (Cond.selects eN n n).holds args s none s [] = true → selectMethod e.platform s.vm P1.m.cls k = .method k := by
    intro n k hn hn' hw
    obtain ⟨c2, r2, m2, q1, q2, q3, q4, -⟩ := Cond.selects_spec hw
    obtain rfl := Option.some.inj (q1.symm.trans hfX)
    obtain rfl := Option.some.inj (q2.symm.trans hn')
    obtain rfl := Option.some.inj (q3.symm.trans hn)
    rw [Launch.admits_selectMethod X.admits]; exact q4
  have s0 := hsel Y.fill0 (State.methodFound?_of_named Y.fill0 (by decide)) (wd _ (nA_own _ (by decide +kernel)))
  have sF := hsel Y.fill (State.methodFound?_of_named Y.fill (by decide)) (wd _ (nA_own _ (by decide +kernel)))
  obtain ⟨S0, hS0, hS0s⟩ := Y.statics
  obtain ⟨u0, hu0⟩ := Cond.staticRefV Y.unassigned L.unassignedStatic L.statics hS0 hS0s (wd (.isRef (.static Bundle.tN "UNASSIGNED_STACK" Bundle.steD)) (nA_own _ (by decide +kernel)))
  obtain ⟨sn, hsn⟩ := Cond.staticRefV Y.sentinel L.sentinelStatic L.statics hS0 hS0s (wd (.isRef (.static Bundle.tN "SUPPRESSED_SENTINEL" Bundle.listD)) (nA_own _ (by decide +kernel)))
  obtain ⟨j1, j2, fB, b1, b2, b3, b4, -, b5, b6, b7⟩ := Cond.ownField (t := .object "java/lang/Object") Y.found L.cls (by decide +kernel) (wd (.fieldLink Bundle.tN 198 Bundle.tN "backtrace" "Ljava/lang/Object;") (nA_own _ (by decide +kernel))) (wd (.lays Bundle.tN Bundle.tN "backtrace" "Ljava/lang/Object;") (nA_own _ (by decide +kernel))) e.platform hmag
  obtain ⟨S1, hS1, hS1v, -, hS1k⟩ := X.same.2.2.2.2.2 T.aS S0 hS0
  have hS1n : S1.vm ≠ .unknown := fun hu => by
    rw [show S0.vm = .unknown from (congrArg Cell.vm hS1v).symm.trans hu] at hS0s
    cases hS0s
  have hoff : T.aS ≠ a := fun hq => absurd (Array.getElem?_eq_some_iff.mp hS0).1 (Nat.not_lt.mpr (hq ▸ hnew))
  obtain ⟨iM, hfM⟩ := Y.msg
  obtain ⟨tC, eC, aC, nC⟩ := Cond.laysAt hfX hk Y.cause (wd (.lays eN Bundle.tN "cause" "Ljava/lang/Throwable;") (nA_own _ (by decide +kernel)))
  obtain ⟨tS, eS, aS, nS⟩ := Cond.laysAt hfX hk Y.stack (wd (.lays eN Bundle.tN "stackTrace" Bundle.steD) (nA_own _ (by decide +kernel)))
  obtain ⟨tP, eP, aP, nP⟩ := Cond.laysAt hfX hk Y.supp (wd (.lays eN Bundle.tN "suppressedExceptions" Bundle.listD) (nA_own _ (by decide +kernel)))
  obtain ⟨tM, eM, aM, nM⟩ := Cond.laysAt hfX hk hfM (wd (.lays eN Bundle.tN "detailMessage" "Ljava/lang/String;") (nA_own _ (by decide +kernel)))
  obtain ⟨tB, eB, aB, nB⟩ := Cond.laysAt hfX hk b7 (wd (.lays eN Bundle.tN "backtrace" "Ljava/lang/Object;") (nA_own _ (by decide +kernel)))
  have bC := Cond.laysApart aB aC nB nC (by rw [b5, Y.causeName]; decide)
  have bS := Cond.laysApart aB aS nB nS (by rw [b5, Y.stackName]; decide)
  have bP := Cond.laysApart aB aP nB nP (by rw [b5, Y.suppName]; decide)
  have hnull : ((preparedCellV T.toThrowableT (freshCell P1.m.cls kX) a u0 sn).withEntry W0.cur).slots[fB.slot]? = some .null := by
    have h0 := fresh_default (c := P1.m.cls) tB
    rw [b6] at h0
    simpa [preparedCellV, Cell.setSlot, Cell.withEntry, Array.getElem?_setIfInBounds, bC, bS, bP, bC.symm, bS.symm, bP.symm, defaultValue] using h0
  obtain ⟨tm, methC, cdC, kC, vm1, hnC, -, -, -, -, -, -, -, hW1, go1⟩ := Steps.initColdS (tb := p.tables) (e := e) (below := below) (s := s) (U := W0) X.here hexec X.warmed hmag hown (t := Bundle.initS eN) rfl rfl (by decide +kernel)
    (wd (.methodLink RX1 104 (Bundle.initS eN)) (nA_own _ (by decide +kernel))) (h (.instanceMethod (Bundle.initS eN)) (nA_own _ (by decide +kernel))) (bytes := rN) (maxL := 2) (h (.code (Bundle.initS eN) rN 2 none) (nA_own _ (by decide +kernel)))
    (f := g) hg (a := a) (msg := v) (rest := .ref a :: rest) hst d6
  obtain rfl := Option.some.inj (hnC.symm.trans hP1)
  have X1 := Stand.noted X hW1
  obtain ⟨vm2, X2, go2⟩ := Stand.ctorMessageOffV X1 hexec (g := { g with stack := .ref a :: rest }) hg hsize T L Z LZ M LM (P1 :: P2 :: Ps)
    (fun P hP => (List.mem_cons.mp hP).elim (fun q => q ▸ L1) (fun q => (List.mem_cons.mp q).elim (fun q => q ▸ L2) (fun q => hL P q))) ⟨hk1, hk2, hks⟩ (u0 := u0) (sen := sn) (self := a) hv (cell := freshCell P1.m.cls kX) (cellS := S1)
    hcell (fun _ => by simp) (by simp) rfl rfl s0 sF hS1 hoff hS1n ((hS1k _ (fun q => nomatch q)).trans hu0) ((hS1k _ (fun q => nomatch q)).trans hsn)
    (Takes.of_laid hk hord tC (by rw [Y.causeType]; rfl)) (Takes.of_laid hk hord tS (by rw [Y.stackType]; exact fits_refV_array _ u0)) (Takes.of_laid hk hord tP (by rw [Y.suppType]; exact fits_refV_object _ sn))
    (Takes.of_laid hk hord tM (by rw [Y.msgType]; exact fits_refV_object _ ⟨v, hv⟩)) Y.objLocals ⟨{ ci198 := j1, i198 := j2, fBack := fB }, ⟨b1, b2, b3, b4⟩, hnull, fun _ _ => rfl⟩ htr [] d6
    (by rw [List.length_cons, List.length_cons, hlen2]; exact hR1) (by rw [List.length_cons, List.length_cons, hlen2]; exact hR2)
  obtain ⟨go3, hrun, hend, hWU, hsm⟩ := Stand.athrowLeaves X2 hexec (g := { g with stack := .ref a :: rest, pc := g.pc + 3 }) hg hlk hen hout (a := a) (rest := rest) rfl d9
  refine ⟨_, go1 _ (fun acts => ?_), hrun, hend, hWU, hsm.weaken (fun y hy hlt => ?_) (Nat.le_refl _) (Nat.le_refl _), _, heapAt_setCell_self (s := (W0.setVm vm1).setVm vm2) (plainBareV T.toThrowableT (freshCell P1.m.cls kX) a u0 sn v) (Array.getElem?_eq_some_iff.mp hcell).1, rfl, rfl⟩
  · rw [doInvoke_state]
    exact go2 _ go3
  · have hy' : y.base = a := by
      simp only [List.nil_append, List.mem_cons, List.not_mem_nil, or_false] at hy
      rcases hy with rfl | rfl | rfl | rfl | rfl <;> rfl
    exact absurd (hy' ▸ hlt) (Nat.not_lt.mpr hnew)
end NX
section NY
variable {p : Program} {l : Launch} {e : Env} {R : Room} {s : State} {m : MethodId} {args : Array Value} {below : List Frame} {meth : Method} {c : Code} {H : Heap} {locs : List Loc} {cells slots : Nat}
variable {mc ms : Nat} {free : Addr → Prop} {ls : Array Slot} {rest : List Value} {Qc : Array Value → State → Outcome → State → Prop} {XC : String → State → State → Prop}
theorem nx_throwS {cc : ByteArray} {pc : Nat} (hexec : p.tables.exec = Jvm.exec) (hb : c.code = cc) (hl : l.stackTraces = false) {text : String} {ik is sa : Nat} {A : Nat → Prop} (hown : s.vm.findClass RX1 = some m.cls)
    (hk : (Cond.classLink RX1 ik eN).before args s = true) (hini : (Cond.initialized eN).before args s = true) (hstr : vk_R RX1 is text sa s) (hat : ∀ w ∈ nW, w.before args s = true)
    (hgood : ∀ w ∈ Cond.classLink RX1 ik eN :: Cond.initialized eN :: nW, vx_ot w = true)
    (hU : vx_Zq Bundle.tN "UNASSIGNED_STACK" Bundle.steD A s s.heap) (hN : vx_Zq Bundle.tN "SUPPRESSED_SENTINEL" Bundle.listD A s s.heap) (hS : va_S A s.heap H locs) (hsize : ls.size = c.maxLocals)
    (d0 : decode cc pc = .ok (.new ik, 3)) (d3 : decode cc (pc + 3) = .ok (.dup, 1)) (d4 : decode cc (pc + 4) = .ok (.ldc is, 2)) (d6 : decode cc (pc + 6) = .ok (.invokespecial 104, 3)) (d9 : decode cc (pc + 9) = .ok (.athrow, 1))
    (hout : ∀ x ∈ c.exceptionTable.toList, covers x (pc + 9) = false)
    (hR1 : 5 < R.frames) (hR2 : (rest.map fun v => v.category).sum + 82 ≤ R.locals) (hRc : cells + 1 ≤ R.cells) (hRs : slots + 6 ≤ R.slots) (hlocks : meth.locks = false)
    (hx : ∀ t : State, s.vm.Alike t.vm → H.size ≤ t.heap.size → (∀ q : Nat, q < H.size → t.heap[q]? = H[q]?) → XC eN s t)
    (hf : ∀ z ∈ locs, free z.base) (hc : cells + 1 ≤ mc) (hs : slots + 6 ≤ ms) :
    W p l e R s m args below meth c H locs cells slots (vx_MQ below Qc XC args s mc ms free) (F0 m pc ls rest) := by
  intro T hT X
  have htr : e.platform.stackTraces = false := (show e.platform.stackTraces = l.stackTraces by rw [X.admits.platform]).trans hl
  have Y := vx_rebase X (R' := { frames := R.frames, locals := R.locals, cells := 1, slots := 6 }) (Nat.le_refl _) (Nat.le_refl _) hRc hRs
  obtain ⟨s', hA⟩ : ∃ z, z = (T.setVm s.vm).setFrames (.invoking m args :: below) := ⟨_, rfl⟩
  rw [← hA] at Y
  have hvm : s'.vm = s.vm := by rw [hA]; rfl
  have hhp : s'.heap = H := by rw [hA]; exact hT
  have hW0 : s.WarmedH s'.vm := by rw [hvm]; exact State.WarmedH.refl s
  have hU' : vx_Zq Bundle.tN "UNASSIGNED_STACK" Bundle.steD A s' s'.heap := by rw [hhp]; exact vx_Zq.moved hW0.alike (hU.kept hS.2.1)
  have hN' : vx_Zq Bundle.tN "SUPPRESSED_SENTINEL" Bundle.listD A s' s'.heap := by rw [hhp]; exact vx_Zq.moved hW0.alike (hN.kept hS.2.1)
  have h : ∀ w ∈ nA, w.before args s' = true := vx_own (fun w hw => vx_ot_at hW0 hvm.symm (hgood w (List.mem_cons_of_mem _ (List.mem_cons_of_mem _ hw))) (hat w hw)) (vx_isRefq hU'.1) (vx_isRefq hN'.1) hU'.2.word hN'.2.word
  have hown' : s'.vm.findClass RX1 = some m.cls := by rw [hvm]; exact hown
  obtain ⟨vm₁, cX, kX, hfX, hkX, -, -, X₁, st1⟩ := Y.newCold hexec (own := RX1) (C := eN) (index := ik) (n := 6) hown' (vx_ot_at hW0 hvm.symm (hgood _ List.mem_cons_self) hk) (h _ (nA_own _ (by decide +kernel))) (vx_ot_at hW0 hvm.symm (hgood _ (List.mem_cons_of_mem _ List.mem_cons_self)) hini)
    (g := F0 m pc ls rest) rfl (by rw [hb]; exact d0) (Nat.le_refl _) (Nat.le_refl _)
  generalize hT1 : (T.setVm vm₁).pushCell { cls := cX, slots := kX.instanceTypes.map defaultValue, vm := .none } = T1 at X₁ st1
  have hcat : (Value.ref T.heap.size).category = 1 := rfl
  have hcellA : T1.heap[T.heap.size]? = some (freshCell cX kX) := by rw [← hT1]; exact State.heap_pushCell_size _ _
  have d3' : decode c.code (pc + 3) = .ok (.dup, 1) := by rw [hb]; exact d3
  have d4' : decode c.code (pc + 4) = .ok (.ldc is, 2) := by rw [hb]; exact d4
  have hstr' : vk_R RX1 is text sa s' := vk_R.warm hW0 hstr
  obtain ⟨U, hsteps, hrun, hend, hW, hsame, ce, hce, hcv, hcc⟩ := nx_ctor X₁ hexec htr hown' h hfX hkX hcellA (by rw [hhp, hT]; exact Nat.le_refl _) (v := .ref sa) rfl
    (g := { method := m, pc := pc + 6, locals := ls, stack := .ref sa :: .ref T.heap.size :: .ref T.heap.size :: rest, locked := none }) rfl hsize rfl rfl (rest := rest) rfl
    (by rw [hb]; exact d6) (by rw [hb]; exact d9) hout hR1 (by simp only [List.map_cons, List.sum_cons, hcat]; omega) hlocks
  obtain ⟨f1, f2⟩ := vx_frame hsame
  rw [hhp] at f1 f2
  have hWs : s.WarmedH U.vm := State.WarmedH.trans hW0 hW
  have hcl : s.vm.findClass eN = some ce.cls := by rw [hcc, ← hvm]; exact hfX
  have hall : s.sameButNew ({ U with vm := s.vm } : State) locs mc ms := by
    subst hA
    obtain ⟨e1, e2⟩ := hsame
    rw [State.setFrames_setFrames] at e1
    have h2 : (T.setVm s.vm).sameButNew ({ U with vm := s.vm } : State) [] (0 + 1) (0 + 6) := ⟨e1, e2⟩
    have h3 := X.same.trans h2
    rw [List.append_nil] at h3
    exact h3.mono hc hs
  refine ⟨U, ?_, .threw T.heap.size, hrun, hend, Or.inr ⟨T.heap.size, rfl, eN, ce, locs, hx U hWs.alike f1 (fun q hq => f2 q hq (fun z hz => nomatch hz)), hce, hcv, hcl, hWs, hall, hf⟩⟩
  refine st1 _ ?_
  show Steps p.tables e below (T1.setTop { method := m, pc := pc + 3, locals := ls, stack := .ref T.heap.size :: rest, locked := none }) _
  jvm_step X₁.here [X₁.here.top, hexec, d3', Value.category]
  exact X₁.ldcString hexec (own := RX1) (text := text) (index := is) (a := sa) hown' hstr'.1 hstr'.2
    (g := { method := m, pc := pc + 4, locals := ls, stack := .ref T.heap.size :: .ref T.heap.size :: rest, locked := none }) rfl d4' _ hsteps
end NY
