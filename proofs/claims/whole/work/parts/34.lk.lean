/-! constructors, calls that may throw, methods that catch -/
def MC {S : Type} (l : Launch) (y : MethodName) (ws : List Cond) (rm : Room) (D : va_G) (tys : List (ClassId × FieldType)) (av : List Value) (wc : va_W) (w1 : S → va_W) (post : S → Prop) (mc ms : Nat) : Prop :=
  ∀ sz : Nat, Met l y ws rm (va_Pc av (cPre D tys wc sz)) (va_Qv post (cB D tys (va_A wc sz) w1) (va_A wc sz)) mc ms (va_A wc sz)
theorem c_entC {S : Type} {l : Launch} {y : MethodName} {ws ws' : List Cond} {rm : Room} {cc : ByteArray} {maxL : Nat} {D : va_G} {tys : List (ClassId × FieldType)} {av : List Value} {wc : va_W} {w1 : S → va_W} {post : S → Prop} {mc ms : Nat}
    (hy : plainName y.cls = true) (hw : ws = Cond.code y cc maxL none :: ws') (hn : y.name = "<init>") (hlen : (lg_sl av).length ≤ maxL)
    (k : ∀ (p : Program) (e : Env) (s : State) (m : MethodId) (below : List Frame) (meth : Method) (c : Code) (A : Nat → Prop) (ls : Array Slot), p.tables.exec = Jvm.exec → c.code = cc → meth.sig.returnType = none → meth.locks = false → (∀ w ∈ ws, w.before av.toArray s = true) → s.vm.findClass y.cls = some m.cls → c.maxLocals = maxL → va_K D vwCl tys s → va_P D vwCl wc s.heap → va_D A wc → (∀ q : Nat, s.heap.size ≤ q → A q) → lv_has ls maxL (lv_args 0 av) → meth.name = "<init>" →
      W p l e rm s m av.toArray below meth c s.heap [] 0 0 (MQ below (va_Qv post (cB D tys A w1) A) av.toArray s mc ms A) (F0 m 0 ls [])) :
    MC l y ws rm D tys av wc w1 post mc ms := by
  intro sz
  refine Met.ofW (cc := cc) (maxL := maxL) (ret := none) hy hw ?_
  intro p e s m args below meth c s₁ B hml hv
  obtain ⟨rfl, hsz, hP, hK, hD0⟩ := hv
  subst hsz
  have hl := lv_entry av (n := maxL) hlen
  rw [lg_entry_eq]
  exact k p e s m below meth c (va_A wc s.heap.size) _ B.exec B.bytes B.returns B.notSynchronized (atoms_spec (ws := ws) B.pre) (findClass_of_methodNamed B.named) hml hK hP hD0.self (fun q h => Or.inr h) hl ((name_of_methodNamed B.named B.method).1.trans hn)
theorem cI_eq {D : va_G} {s : State} {c1 c2 : ClassId} (hK : va_K D vwCl ([(c1, .int)] ++ [(c2, .int)]) s) : c1 = c2 := by
  have h1 := (hK.2 0 _ rfl).2
  have h2 := (hK.2 1 _ rfl).2
  exact Option.some.inj ((show s.vm.findClass _ = some c1 from h1).symm.trans (show s.vm.findClass _ = some c2 from h2))
def cPreL (D : va_G) (tys : List (ClassId × FieldType)) (wc : va_W) (sa : Nat → Nat) (sz : Nat) : State → Prop := fun U => cPreX D tys wc sa sz U ∧ va_Nc eN eI U
def ML {S : Type} (l : Launch) (y : MethodName) (ws : List Cond) (rm : Room) (D : va_G) (tys : List (ClassId × FieldType)) (av : List Value) (wc : va_W) (sa : Nat → Nat) (w1 : S → va_W) (post : Int32 → S → Prop) : Prop :=
  ∀ sz : Nat, Met l y ws rm (va_Pc av (cPreL D tys wc sa sz)) (va_Qi post (cB D tys (va_A wc sz) w1) (va_A wc sz)) 1 6 (va_A wc sz)
theorem c_entL {S : Type} {l : Launch} {y : MethodName} {ws ws' : List Cond} {rm : Room} {cc : ByteArray} {maxL : Nat} {ret : Option FieldType} {hh : List (Nat × Nat × Nat × Nat)} {D : va_G} {tys : List (ClassId × FieldType)} {av : List Value} {wc : va_W} {sa : Nat → Nat} {w1 : S → va_W} {post : Int32 → S → Prop}
    (hy : plainName y.cls = true) (hw : ws = Cond.codeWith y cc maxL ret hh :: ws') (hlen : (lg_sl av).length ≤ maxL)
    (k : ∀ (p : Program) (e : Env) (s : State) (m : MethodId) (below : List Frame) (meth : Method) (c : Code) (A : Nat → Prop) (ls : Array Slot), p.tables.exec = Jvm.exec → c.code = cc → meth.sig.returnType = ret → meth.locks = false → (∀ w ∈ ws, w.before av.toArray s = true) → s.vm.findClass y.cls = some m.cls → c.maxLocals = maxL → va_K D vwCl tys s → va_P D vwCl wc s.heap → va_D A wc → (∀ q : Nat, s.heap.size ≤ q → A q) → lv_has ls maxL (lv_args 0 av) → c.exceptionTable.toList = tableOf hh → thr A sa s s.heap → va_Nc eN eI s →
      W p l e rm s m av.toArray below meth c s.heap [] 0 0 (MQ below (va_Qi post (cB D tys A w1) A) av.toArray s 1 6 A) (F0 m 0 ls [])) :
    ML l y ws rm D tys av wc sa w1 post := by
  intro sz
  refine va_MetW (cc := cc) (maxL := maxL) (ret := ret) (hh := hh) hy hw ?_
  intro p e s m args below meth c s₁ B hml hv
  obtain ⟨rfl, ⟨⟨hsz, hP, hK, hD0⟩, hth⟩, hnc⟩ := hv
  subst hsz
  have hl := lv_entry av (n := maxL) hlen
  rw [lg_entry_eq]
  have htab := vx_table (x := y) (bytes := cc) (maxL' := maxL) (ret' := ret) (hh := hh) B (atoms_spec (ws := ws) B.pre _ (by rw [hw]; exact List.mem_cons_self))
  exact k p e s m below meth c (va_A wc s.heap.size) _ B.exec B.bytes B.returns B.notSynchronized (atoms_spec (ws := ws) B.pre) (findClass_of_methodNamed B.named) hml hK hP hD0.self (fun q h => Or.inr h) hl htab hth hnc
section KL
variable {p : Program} {l : Launch} {e : Env} {R : Room} {s : State} {m : MethodId} {args : Array Value} {below : List Frame} {meth : Method} {c : Code} {H : Heap} {locs : List Loc} {cells slots : Nat} {Q : State → Prop} {cc : ByteArray} {pc : Nat} {ls : Array Slot} {rest st : List Value}
variable {D : va_G} {tys : List (ClassId × FieldType)} {A : Nat → Prop} {H0 : Heap} {S : Type} {w1 : S → va_W}
variable {y : MethodName} {bytes : ByteArray} {maxL nL n index mc ms : Nat} {ret : Option FieldType} {wsC : List Cond} {rm : Room} {Ts : List Cond} {own C : String} {b : Addr} {As : List Value} {ws wc wr : va_W} {wF : S → va_W} {sa : Nat → Nat}
theorem c_rl {post : Int32 → S → Prop} {v : Int32} (u : S) (hexec : p.tables.exec = Jvm.exec) (hb : c.code = cc) (hr : meth.sig.returnType = some .int) (hlocks : meth.locks = false) (hK : va_K D vwCl tys s) (hP : va_P D vwCl (w1 u) H) (hD : va_D A (w1 u)) (hS : va_S A s.heap H locs) (hdg : decode cc pc = .ok (.ireturn, 1)) (hc : cells ≤ 1) (hs : slots ≤ 6) (hpost : post v u) :
    W p l e R s m args below meth c H locs cells slots (MQ below (va_Qi post (cB D tys A w1) A) args s 1 6 A) (F0 m pc ls [.int v]) :=
  W.widen (k := 1) (n := 6) hc hs (W.iret (v := v) hexec hb hr (fun t ht hW => ⟨⟨v, u, rfl, hpost, by rw [ht]; exact hP, va_K.moved hW.alike hK, hD⟩, hS.F ht⟩) hS.2.2 hdg hlocks)
theorem c_rc {post : S → Prop} (u : S) (hexec : p.tables.exec = Jvm.exec) (hb : c.code = cc) (hr : meth.sig.returnType = none) (hlocks : meth.locks = false) (hK : va_K D vwCl tys s) (hP : va_P D vwCl (w1 u) H) (hD : va_D A (w1 u)) (hS : va_S A s.heap H locs) (hdg : decode cc pc = .ok (.return_, 1)) (hc : cells ≤ mc) (hs : slots ≤ ms) (hpost : post u) :
    W p l e R s m args below meth c H locs cells slots (MQ below (va_Qv post (cB D tys A w1) A) args s mc ms A) (F0 m pc ls []) :=
  W.widen (k := mc) (n := ms) hc hs (W.vret hexec hb hr (fun t ht hW => ⟨⟨u, rfl, hpost, by rw [ht]; exact hP, va_K.moved hW.alike hK, hD⟩, hS.F ht⟩) hS.2.2 hdg hlocks)
theorem c_ctor {post : S → Prop} (hM : MC l y wsC rm D tys (.ref b :: As) wc w1 post mc ms) (fx : CallFix p m c cc nL s args Ts own) (cw : CallB R s args own index y bytes maxL none wsC rm mc ms n ∧ y.name = "<init>" ∧ (Cond.instanceMethod y).before args s = true)
    (hK : va_K D vwCl tys s) (hP : va_P D vwCl ws H) (hD : va_D A ws) (hS : va_S A H0 H locs) (hA : ∀ q, H0.size ≤ q → A q) (isC isR ks : List Nat) (hC : isC.map (fun i => ws[i]?) = wc.map some) (hnC : va_nd isC = true) (hR : isR.map (fun i => ws[i]?) = wr.map some) (hn : va_nd isR = true) (hdis : ∀ i ∈ isR, i ∉ isC) (hks : va_nd ks = true) (hF : ∀ u, ks.map (fun i => (wr ++ w1 u)[i]?) = (wF u).map some)
    (hlen : As.length = n) (hsz : ls.size = nL) (hst : st = As.reverse ++ .ref b :: rest) (hW : (rest.map fun v => v.category).sum ≤ 8) (hdg : decode cc pc = .ok (.invokespecial index, 3)) (hf : cells + mc ≤ R.cells ∧ slots + ms ≤ R.slots)
    (kk : ∀ (u : S) (H1 : Heap) (locs1 : List Loc), post u → va_P D vwCl (wF u) H1 → va_D A (wF u) → va_S A H0 H1 locs1 → W p l e R s m args below meth c H1 locs1 (cells + mc) (slots + ms) Q (F0 m (pc + 3) ls rest)) :
    W p l e R s m args below meth c H locs cells slots Q (F0 m pc ls st) := by
  have hPc : va_P D vwCl wc H := hP.sub isC (l_fm hC)
  have hDc : va_D A wc := hD.sub isC hnC hC
  have hFc := va_free (wc := wc) hD hS hA isC hC
  refine va_callv (va_runI (As := As) (rest := rest) fx (hM H.size) cw ⟨pr_blind, pr_at hK hPc hDc⟩ rfl hlen hsz hst (lv_room hW) hdg hf) hS (fun q _ h => hFc q h) hFc (fun u t H1 locs1 ht hvm hw hB hz1 hk1 hS1 => ?_)
  obtain ⟨g1, g2⟩ := pr_back hP hD isC isR ks hC hR hn hdis hks hF hk1 hFc ht hB
  exact kk u H1 locs1 hw g1 g2 hS1
theorem px_blind {av : List Value} {sz : Nat} : FrameBlind (va_Pc av (cPreX D tys wc sa sz)) := by
  intro a U g mk q
  obtain ⟨q0, ⟨q1, qP, qK, qD⟩, qt⟩ := q
  exact ⟨q0, ⟨q1, qP, va_K.moved (u := U) (U := U.calling g mk a) (Vm.Alike.refl U.vm) qK, qD⟩, thr_moved (U := U.calling g mk a) qt (State.WarmedH.refl U) (fun _ _ _ => rfl) (fun _ h => h)⟩
theorem pl_blind {av : List Value} {sz : Nat} : FrameBlind (va_Pc av (cPreL D tys wc sa sz)) := by
  intro a U g mk q
  obtain ⟨q0, qx, qn⟩ := q
  exact ⟨q0, (px_blind (av := av) a U g mk ⟨q0, qx⟩).2, va_Nc.moved (u := U) (U := U.calling g mk a) (Vm.Alike.refl U.vm) qn⟩
theorem c_cvx {post : Int32 → S → Prop} {px : String → S → Prop} {tys' : List (ClassId × FieldType)} (hM : MX l y wsC rm D tys (.ref b :: As) wc sa w1 post px) (fx : CallFix p m c cc nL s args Ts own) (cw : CallW R s args own C index y bytes maxL ret wsC rm 1 6 n)
    (hK : va_K D vwCl tys s) (hth : thr A sa s s.heap) (hP : va_P D vwCl ws H) (hD : va_D A ws) (hS : va_S A s.heap H locs) (hA : ∀ q, s.heap.size ≤ q → A q) (isC isR ks : List Nat) (hC : isC.map (fun i => ws[i]?) = wc.map some) (hnC : va_nd isC = true) (hR : isR.map (fun i => ws[i]?) = wr.map some) (hn : va_nd isR = true) (hdis : ∀ i ∈ isR, i ∉ isC) (hks : va_nd ks = true) (hF : ∀ u, ks.map (fun i => (wr ++ w1 u)[i]?) = (wF u).map some)
    {ci q0 : Nat} {q : vw_C} {fs : List Value} (hci : vwCl[ci]? = some q) (hq1 : q.1 = C) (he : wc[q0]? = some (b, .inr (ci, fs)))
    (hlen : As.length = n) (hsz : ls.size = nL) (hst : st = As.reverse ++ .ref b :: rest) (hW : (rest.map fun v => v.category).sum ≤ 8) (hdg : decode cc pc = .ok (.invokevirtual index, 3)) (hf : cells + 1 ≤ R.cells ∧ slots + 6 ≤ R.slots)
    (kx : ∀ (E : String) (ce : Cell) (q9 : Addr) (u : S) (H1 : Heap) (locs1 : List Loc), px E u → va_P D vwCl (wF u) H1 → va_D A (wF u) → va_S A s.heap H1 locs1 → H1[q9]? = some ce → ce.vm = .none → s.vm.findClass E = some ce.cls → vx_W p l e R s m args below meth c H1 locs1 (cells + 1) (slots + 6) Q (F0 m pc ls rest) q9)
    (kk : ∀ (r : Int32) (u : S) (H1 : Heap) (locs1 : List Loc), post r u → va_P D vwCl (wF u) H1 → va_D A (wF u) → va_S A s.heap H1 locs1 → W p l e R s m args below meth c H1 locs1 (cells + 1) (slots + 6) Q (F0 m (pc + 3) ls (.int r :: rest))) :
    W p l e R s m args below meth c H locs cells slots Q (F0 m pc ls st) := by
  subst hq1
  have hPc : va_P D vwCl wc H := hP.sub isC (l_fm hC)
  have hDc : va_D A wc := hD.sub isC hnC hC
  have hFc := va_free (wc := wc) hD hS hA isC hC
  refine vx_calli (vx_runV (As := As) (rest := rest) fx (hM H.size) cw ⟨px_blind, va_recv hK hPc hci he, fun U hU hW => ⟨rfl, ⟨by rw [hU], by rw [hU]; exact hPc, va_K.moved hW.alike hK, hDc.weaken (fun _ _ _ _ => trivial)⟩, thr_moved hth hW (by rw [hU]; exact hS.2.1) hFc⟩⟩ rfl hlen hsz hst (lv_room hW) hdg hf) hS (fun q _ h => hFc q h) hFc (fun q _ h => hFc q h) (fun E ce q9 u t H1 locs1 ht hvm hp hB hz1 hk1 hS1 c1 c2 c3 => ?_) (fun r u t H1 locs1 ht hvm hw hB hz1 hk1 hS1 => ?_)
  · obtain ⟨g1, g2⟩ := pr_back hP hD isC isR ks hC hR hn hdis hks hF hk1 hFc ht hB.2
    exact kx E ce q9 u H1 locs1 hB.1 g1 g2 hS1 c1 c2 c3
  · obtain ⟨g1, g2⟩ := pr_back hP hD isC isR ks hC hR hn hdis hks hF hk1 hFc ht hB
    exact kk r u H1 locs1 hw g1 g2 hS1
theorem c_csl {post : Int32 → S → Prop} {hh : List (Nat × Nat × Nat × Nat)} (hM : ML l y wsC rm D tys As wc sa w1 post) (fx : CallFix p m c cc nL s args Ts own) (cw : vx_CSW R s args own index y bytes maxL ret hh wsC rm 1 6 n)
    (hK : va_K D vwCl tys s) (hth : thr A sa s s.heap) (hnc : va_Nc eN eI s) (hP : va_P D vwCl ws H) (hD : va_D A ws) (hS : va_S A s.heap H locs) (hA : ∀ q, s.heap.size ≤ q → A q) (isC isR ks : List Nat) (hC : isC.map (fun i => ws[i]?) = wc.map some) (hnC : va_nd isC = true) (hR : isR.map (fun i => ws[i]?) = wr.map some) (hn : va_nd isR = true) (hdis : ∀ i ∈ isR, i ∉ isC) (hks : va_nd ks = true) (hF : ∀ u, ks.map (fun i => (wr ++ w1 u)[i]?) = (wF u).map some)
    (hlen : As.length = n) (hsz : ls.size = nL) (hst : st = As.reverse ++ rest) (hW : (rest.map fun v => v.category).sum ≤ 8) (hdg : decode cc pc = .ok (.invokestatic index, 3)) (hf : cells + 1 ≤ R.cells ∧ slots + 6 ≤ R.slots)
    (kk : ∀ (r : Int32) (u : S) (H1 : Heap) (locs1 : List Loc), post r u → va_P D vwCl (wF u) H1 → va_D A (wF u) → va_S A s.heap H1 locs1 → W p l e R s m args below meth c H1 locs1 (cells + 1) (slots + 6) Q (F0 m (pc + 3) ls (.int r :: rest))) :
    W p l e R s m args below meth c H locs cells slots Q (F0 m pc ls st) := by
  have hPc : va_P D vwCl wc H := hP.sub isC (l_fm hC)
  have hDc : va_D A wc := hD.sub isC hnC hC
  have hFc := va_free (wc := wc) hD hS hA isC hC
  refine va_calli (vx_runSW (As := As) (rest := rest) fx (hM H.size) cw ⟨pl_blind, fun U hU hW => ⟨rfl, ⟨⟨by rw [hU], by rw [hU]; exact hPc, va_K.moved hW.alike hK, hDc.weaken (fun _ _ _ _ => trivial)⟩, thr_moved hth hW (by rw [hU]; exact hS.2.1) hFc⟩, va_Nc.moved hW.alike hnc⟩⟩ rfl hlen hsz hst (lv_room hW) hdg hf) hS (fun q _ h => hFc q h) hFc (fun r u t H1 locs1 ht hvm hw hB hz1 hk1 hS1 => ?_)
  obtain ⟨g1, g2⟩ := pr_back hP hD isC isR ks hC hR hn hdis hks hF hk1 hFc ht hB
  exact kk r u H1 locs1 hw g1 g2 hS1
end KL
abbrev WO (cI cJ : ClassId) (ad : Nat → Nat) (ao : Nat) (f : Nat → Nat → Int32) (lo hi : Nat → Int32) (T Dv C : Int32) (og : Nat → Int64) : va_W := WX cI ad f lo hi T Dv C ++ [(ao, .inl (cJ, 1, .inr (.inl og)))]
def ad16 (q0 q1 q2 q3 q4 q5 q6 q7 q8 q9 q10 q11 q12 q13 q14 q15 : Nat) : Nat → Nat := fun k => match k with
  | 0 => q0 | 1 => q1 | 2 => q2 | 3 => q3 | 4 => q4 | 5 => q5 | 6 => q6 | 7 => q7 | 8 => q8 | 9 => q9 | 10 => q10 | 11 => q11 | 12 => q12 | 13 => q13 | 14 => q14 | _ => q15
def ad17 (q0 q1 q2 q3 q4 q5 q6 q7 q8 q9 q10 q11 q12 q13 q14 q15 q16 : Nat) : Nat → Nat := fun k => match k with
  | 0 => q0 | 1 => q1 | 2 => q2 | 3 => q3 | 4 => q4 | 5 => q5 | 6 => q6 | 7 => q7 | 8 => q8 | 9 => q9 | 10 => q10 | 11 => q11 | 12 => q12 | 13 => q13 | 14 => q14 | 15 => q15 | _ => q16
