/-! methods that throw: their contracts, their entry, their ends -/
def thr (A : Nat → Prop) (sa : Nat → Nat) (U : State) (H : Heap) : Prop :=
  vx_Zq Bundle.tN "UNASSIGNED_STACK" Bundle.steD A U H ∧ vx_Zq Bundle.tN "SUPPRESSED_SENTINEL" Bundle.listD A U H ∧
  (vk_R RX1 95 "no such TIME or what" (sa 0) U ∧ vk_R RX1 102 "there is no TRUTH" (sa 1) U ∧ vk_R RX1 118 "no such DOOR or TICK" (sa 2) U ∧ vk_R RX1 130 "no such DOOR" (sa 3) U ∧ vk_R RX1 139 "no such what" (sa 4) U) ∧
  (va_Nw (.castable eI eI) U ∧ va_Nw (.castable eN eN) U ∧ va_Nw (.declares (Bundle.initS "java/lang/RuntimeException")) U ∧ va_Nw (.declares (Bundle.initS "java/lang/Exception")) U ∧ va_Nw (.declares (Bundle.initS Bundle.tN)) U)
theorem thr_moved {A B : Nat → Prop} {sa : Nat → Nat} {s U : State} {H H1 : Heap} (h : thr A sa s H) (hW : s.WarmedH U.vm) (hq : ∀ a : Nat, a < H.size → ¬ A a → H1[a]? = H[a]?) (hAB : ∀ q, B q → A q) : thr B sa U H1 := by
  obtain ⟨h1, h2, ⟨s0, s1, s2, s3, s4⟩, c1, c2, d1, d2, d3⟩ := h
  exact ⟨((vx_Zq.moved hW.alike h1).kept hq).narrow hAB, ((vx_Zq.moved hW.alike h2).kept hq).narrow hAB, ⟨vk_R.warm hW s0, vk_R.warm hW s1, vk_R.warm hW s2, vk_R.warm hW s3, vk_R.warm hW s4⟩, va_Nw.warmC hW c1, va_Nw.warmC hW c2, va_Nw.warmD hW d1, va_Nw.warmD hW d2, va_Nw.warmD hW d3⟩
def cPreX (D : va_G) (tys : List (ClassId × FieldType)) (wc : va_W) (sa : Nat → Nat) (sz : Nat) : State → Prop := fun U => cPre D tys wc sz U ∧ thr (va_A wc sz) sa U U.heap
def MX {S : Type} (l : Launch) (y : MethodName) (ws : List Cond) (rm : Room) (D : va_G) (tys : List (ClassId × FieldType)) (av : List Value) (wc : va_W) (sa : Nat → Nat) (w1 : S → va_W) (post : Int32 → S → Prop) (px : String → S → Prop) : Prop :=
  ∀ sz : Nat, vx_Met l y ws rm (va_Pc av (cPreX D tys wc sa sz)) (va_Qi post (cB D tys (va_A wc sz) w1) (va_A wc sz)) (vx_X (fun _ : S => True) (fun E u t => px E u ∧ cB D tys (va_A wc sz) w1 u t) (va_A wc sz)) 1 6 (va_A wc sz)
theorem c_entX {S : Type} {l : Launch} {y : MethodName} {ws ws' : List Cond} {rm : Room} {cc : ByteArray} {maxL : Nat} {ret : Option FieldType} {D : va_G} {tys : List (ClassId × FieldType)} {av : List Value} {wc : va_W} {sa : Nat → Nat} {w1 : S → va_W} {post : Int32 → S → Prop} {px : String → S → Prop}
    (hy : plainName y.cls = true) (hw : ws = Cond.code y cc maxL ret :: ws') (hlen : (lg_sl av).length ≤ maxL)
    (k : ∀ (p : Program) (e : Env) (s : State) (m : MethodId) (below : List Frame) (meth : Method) (c : Code) (A : Nat → Prop) (ls : Array Slot), p.tables.exec = Jvm.exec → c.code = cc → meth.sig.returnType = ret → meth.locks = false → (∀ w ∈ ws, w.before av.toArray s = true) → s.vm.findClass y.cls = some m.cls → c.maxLocals = maxL → va_K D vwCl tys s → va_P D vwCl wc s.heap → va_D A wc → (∀ q : Nat, s.heap.size ≤ q → A q) → lv_has ls maxL (lv_args 0 av) → (∀ x ∈ c.exceptionTable.toList, False) → thr A sa s s.heap →
      W p l e rm s m av.toArray below meth c s.heap [] 0 0 (vx_MQ below (va_Qi post (cB D tys A w1) A) (vx_X (fun _ : S => True) (fun E u t => px E u ∧ cB D tys A w1 u t) A) av.toArray s 1 6 A) (F0 m 0 ls [])) :
    MX l y ws rm D tys av wc sa w1 post px := by
  intro sz
  refine vx_ofW (cc := cc) (maxL := maxL) (ret := ret) hy hw ?_
  intro p e s m args below meth c s₁ B hml ht hv
  obtain ⟨rfl, ⟨hsz, hP, hK, hD0⟩, hth⟩ := hv
  subst hsz
  have hl := lv_entry av (n := maxL) hlen
  rw [lg_entry_eq]
  exact k p e s m below meth c (va_A wc s.heap.size) _ B.exec B.bytes B.returns B.notSynchronized (atoms_spec (ws := ws) B.pre) (findClass_of_methodNamed B.named) hml hK hP hD0.self (fun q h => Or.inr h) hl ht hth
section KT
variable {p : Program} {l : Launch} {e : Env} {R : Room} {s : State} {m : MethodId} {args : Array Value} {below : List Frame} {meth : Method} {c : Code} {H : Heap} {locs : List Loc} {cc : ByteArray} {pc : Nat} {ls : Array Slot} {rest : List Value}
variable {D : va_G} {tys : List (ClassId × FieldType)} {A : Nat → Prop} {S : Type} {w1 : S → va_W} {post : Int32 → S → Prop} {px : String → S → Prop}
theorem c_rx {v : Int32} (u : S) (hexec : p.tables.exec = Jvm.exec) (hb : c.code = cc) (hr : meth.sig.returnType = some .int) (hlocks : meth.locks = false) (hK : va_K D vwCl tys s) (hP : va_P D vwCl (w1 u) H) (hD : va_D A (w1 u)) (hS : va_S A s.heap H locs) (hdg : decode cc pc = .ok (.ireturn, 1)) (hpost : post v u) :
    W p l e R s m args below meth c H locs 0 0 (vx_MQ below (va_Qi post (cB D tys A w1) A) (vx_X (fun _ : S => True) (fun E u t => px E u ∧ cB D tys A w1 u t) A) args s 1 6 A) (F0 m pc ls [.int v]) :=
  vx_ret (W.widen (k := 1) (n := 6) (by omega) (by omega) (W.iret (v := v) hexec hb hr (fun t ht hW => ⟨⟨v, u, rfl, hpost, by rw [ht]; exact hP, va_K.moved hW.alike hK, hD⟩, hS.F ht⟩) hS.2.2 hdg hlocks))
theorem c_thr (u : S) {own cls text : String} {ik is ic sa : Nat} (hexec : p.tables.exec = Jvm.exec) (hb : c.code = cc) (hl : l.stackTraces = false) (hown : s.vm.findClass own = some m.cls) (hcls : Bundle.fit cls = true)
    (hk : (Cond.classLink own ik cls).before args s = true) (hini : (Cond.initialized cls).before args s = true) (hstr : vk_R own is text sa s) (h1 : ∀ w ∈ (vx_atS own ic cls eNs).filter goodWord, w.before args s = true) (h2 : ∀ w ∈ (vx_atS own ic cls eNs).filter (fun w => !goodWord w), w ∈ [Cond.castable cls cls, Cond.declares (Bundle.initS "java/lang/RuntimeException"), Cond.declares (Bundle.initS "java/lang/Exception"), Cond.declares (Bundle.initS Bundle.tN)]) (hcs : va_Nw (.castable cls cls) s) (hd1 : va_Nw (.declares (Bundle.initS "java/lang/RuntimeException")) s) (hd2 : va_Nw (.declares (Bundle.initS "java/lang/Exception")) s) (hd3 : va_Nw (.declares (Bundle.initS Bundle.tN)) s)
    (hgood : ∀ w ∈ Cond.classLink own ik cls :: Cond.initialized cls :: vx_atS own ic cls eNs, vx_ot w = true)
    (hU : vx_Zq Bundle.tN "UNASSIGNED_STACK" Bundle.steD A s s.heap) (hN : vx_Zq Bundle.tN "SUPPRESSED_SENTINEL" Bundle.listD A s s.heap) (hK : va_K D vwCl tys s) (hP : va_P D vwCl (w1 u) H) (hD : va_D A (w1 u)) (hS : va_S A s.heap H locs) (hsize : ls.size = c.maxLocals)
    (d0 : decode cc pc = .ok (.new ik, 3)) (d3 : decode cc (pc + 3) = .ok (.dup, 1)) (d4 : decode cc (pc + 4) = .ok (.ldc is, 2)) (d6 : decode cc (pc + 6) = .ok (.invokespecial ic, 3)) (d9 : decode cc (pc + 9) = .ok (.athrow, 1))
    (hout : ∀ x ∈ c.exceptionTable.toList, False) (hR1 : 5 < R.frames) (hR2 : (rest.map fun v => v.category).sum + 82 ≤ R.locals) (hR3 : 1 ≤ R.cells) (hR4 : 6 ≤ R.slots) (hlocks : meth.locks = false) (hpx : px cls u) :
    W p l e R s m args below meth c H locs 0 0 (vx_MQ below (va_Qi post (cB D tys A w1) A) (vx_X (fun _ : S => True) (fun E u t => px E u ∧ cB D tys A w1 u t) A) args s 1 6 A) (F0 m pc ls rest) :=
  vx_throwS (names := eNs) (A := A) hexec hb hl hown hcls (by decide) hk hini hstr (vx_hat h1 h2 (vx_c (va_Nw.use rfl hcs) (vx_c (va_Nw.use rfl hd1) (vx_c (va_Nw.use rfl hd2) (vx_c (va_Nw.use rfl hd3) vx_n))))) hgood hU hN hS hsize d0 d3 d4 d6 d9 (fun x hx => (hout x hx).elim) hR1 hR2 (by omega) (by omega) hlocks
    (fun t hvm hsz hk => ⟨u, trivial, ⟨hpx, hP.kept (fun k q hq => hk q.1 (hP k q hq).lt), va_K.moved hvm hK, hD⟩, Nat.le_trans hS.1 hsz, fun q hq hn => (hk q (Nat.lt_of_lt_of_le hq hS.1)).trans (hS.2.1 q hq hn)⟩) hS.2.2 (by omega) (by omega)
theorem c_thrN (u : S) {text : String} {ik is sa : Nat} (hexec : p.tables.exec = Jvm.exec) (hb : c.code = cc) (hl : l.stackTraces = false) (hown : s.vm.findClass RX1 = some m.cls)
    (hk : (Cond.classLink RX1 ik eN).before args s = true) (hini : (Cond.initialized eN).before args s = true) (hstr : vk_R RX1 is text sa s) (h1 : ∀ w ∈ (nW).filter goodWord, w.before args s = true) (h2 : ∀ w ∈ (nW).filter (fun w => !goodWord w), w ∈ [Cond.castable eN eN, Cond.declares (Bundle.initS "java/lang/RuntimeException"), Cond.declares (Bundle.initS "java/lang/Exception"), Cond.declares (Bundle.initS Bundle.tN)]) (hcs : va_Nw (.castable eN eN) s) (hd1 : va_Nw (.declares (Bundle.initS "java/lang/RuntimeException")) s) (hd2 : va_Nw (.declares (Bundle.initS "java/lang/Exception")) s) (hd3 : va_Nw (.declares (Bundle.initS Bundle.tN)) s)
    (hgood : ∀ w ∈ Cond.classLink RX1 ik eN :: Cond.initialized eN :: nW, vx_ot w = true)
    (hU : vx_Zq Bundle.tN "UNASSIGNED_STACK" Bundle.steD A s s.heap) (hN : vx_Zq Bundle.tN "SUPPRESSED_SENTINEL" Bundle.listD A s s.heap) (hK : va_K D vwCl tys s) (hP : va_P D vwCl (w1 u) H) (hD : va_D A (w1 u)) (hS : va_S A s.heap H locs) (hsize : ls.size = c.maxLocals)
    (d0 : decode cc pc = .ok (.new ik, 3)) (d3 : decode cc (pc + 3) = .ok (.dup, 1)) (d4 : decode cc (pc + 4) = .ok (.ldc is, 2)) (d6 : decode cc (pc + 6) = .ok (.invokespecial 104, 3)) (d9 : decode cc (pc + 9) = .ok (.athrow, 1))
    (hout : ∀ x ∈ c.exceptionTable.toList, False) (hR1 : 5 < R.frames) (hR2 : (rest.map fun v => v.category).sum + 82 ≤ R.locals) (hR3 : 1 ≤ R.cells) (hR4 : 6 ≤ R.slots) (hlocks : meth.locks = false) (hpx : px eN u) :
    W p l e R s m args below meth c H locs 0 0 (vx_MQ below (va_Qi post (cB D tys A w1) A) (vx_X (fun _ : S => True) (fun E u t => px E u ∧ cB D tys A w1 u t) A) args s 1 6 A) (F0 m pc ls rest) :=
  nx_throwS (A := A) hexec hb hl hown hk hini hstr (vx_hat h1 h2 (vx_c (va_Nw.use rfl hcs) (vx_c (va_Nw.use rfl hd1) (vx_c (va_Nw.use rfl hd2) (vx_c (va_Nw.use rfl hd3) vx_n))))) hgood hU hN hS hsize d0 d3 d4 d6 d9 (fun x hx => (hout x hx).elim) hR1 hR2 (by omega) (by omega) hlocks
    (fun t hvm hsz hk => ⟨u, trivial, ⟨hpx, hP.kept (fun k q hq => hk q.1 (hP k q hq).lt), va_K.moved hvm hK, hD⟩, Nat.le_trans hS.1 hsz, fun q hq hn => (hk q (Nat.lt_of_lt_of_le hq hS.1)).trans (hS.2.1 q hq hn)⟩) hS.2.2 (by omega) (by omega)
end KT
theorem no97 : ∀ w ∈ (vx_atS RX1 97 eI eNs).filter (fun w => !goodWord w), w ∈ [Cond.castable eI eI, Cond.declares (Bundle.initS "java/lang/RuntimeException"), Cond.declares (Bundle.initS "java/lang/Exception"), Cond.declares (Bundle.initS Bundle.tN)] := by decide +kernel
theorem ot97 : ∀ w ∈ Cond.classLink RX1 93 eI :: Cond.initialized eI :: vx_atS RX1 97 eI eNs, vx_ot w = true := by decide +kernel
theorem no104 : ∀ w ∈ nW.filter (fun w => !goodWord w), w ∈ [Cond.castable eN eN, Cond.declares (Bundle.initS "java/lang/RuntimeException"), Cond.declares (Bundle.initS "java/lang/Exception"), Cond.declares (Bundle.initS Bundle.tN)] := by decide +kernel
theorem ot104 : ∀ w ∈ Cond.classLink RX1 100 eN :: Cond.initialized eN :: nW, vx_ot w = true := by decide +kernel
