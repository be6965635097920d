set_option maxHeartbeats 4000000 in
set_option maxRecDepth 100000 in
theorem kL_inside (l : Launch) (hst : l.stackTraces = false) (D : va_G) (cI cJ : ClassId) (ad : Nat → Nat) (sa : Nat → Nat) (ao : Nat) (f : Nat → Nat → Int32) (lo hi : Nat → Int32) (T Dv C : Int32) (og : Nat → Int64) (Tn Dn Cn : Nat) (p1 p2 p3 : Int32) (hT : T.toInt = (Tn : Int)) (hDv : Dv.toInt = (Dn : Int)) (hC : C.toInt = (Cn : Int)) (hI : Inv f Tn Dn Cn) : ML l yL_inside vsL_inside ({ frames := 7, cells := 1, slots := 6, locals := 159 } : Room) D [(cI, .int), (cJ, .long)] [.ref (ad 0), .int p1, .int p2, .int p3, .ref ao] (WO cI cJ ad ao f lo hi T Dv C og) sa (fun u : (Nat → Int32) × (Nat → Int32) × (Nat → Int64) => WO cI cJ ad ao f u.1 u.2.1 T Dv C u.2.2) (fun (r : Int32) (u : (Nat → Int32) × (Nat → Int32) × (Nat → Int64)) => ∃ v : Int32, IN f Tn Dn Cn p1.toInt p2.toInt p3.toInt (r.toInt) (v.toInt) ∧ (r.toInt = 0 → u.2.2 0 = v.toInt64)) := by
  refine c_entL (cc := cL_inside) (maxL := 6) (ret := some .int) (hh := [(0, 12, 15, 13), (0, 12, 19, 15)]) (by decide) rfl (Nat.le_of_ble_eq_true rfl) ?_
  intro p e s m below meth c A ls hx hb hr hlocks hts hown hml hK hP hD hA hl htab hth hnc
  have hS : va_S A s.heap s.heap [] := va_S.rf
  have hl : lv_has ls 6 [(0, .ref (ad 0)), (1, .int p1), (2, .int p2), (3, .int p3), (4, .ref ao)] := hl
  have hP : va_P D vwCl (WO cI cJ ad ao f lo hi T Dv C og) s.heap := hP
  have hcI := hth.2.2.2.1
  have hcN := hth.2.2.2.2.1
  have l13 := hts (.classLink RL 13 eI) (by decide +kernel)
  have l15 := hts (.classLink RL 15 eN) (by decide +kernel)
  refine lv_aload hx hb dL_inside_0 (lv_at hl 4 rfl) ?_
  refine lv_iconst (v := 0) hx hb dL_inside_2 (by decide) ?_
  refine lv_aload_n hx hb dL_inside_3 rfl (lv_at hl 0 rfl) ?_
  refine lv_iload_n hx hb dL_inside_4 rfl (lv_at hl 1 rfl) ?_
  refine lv_iload_n hx hb dL_inside_5 rfl (lv_at hl 2 rfl) ?_
  refine lv_iload_n hx hb dL_inside_6 rfl (lv_at hl 3 rfl) ?_
  refine c_cvx (tys' := []) (As := [.int p1, .int p2, .int p3]) (ci := 1) (q0 := 0) (wr := [(ao, .inl (cJ, 1, .inr (.inl og)))]) (wF := (fun u : (Nat → Int32) × (Nat → Int32) => WO cI cJ ad ao f u.1 u.2 T Dv C og)) (kX1_inside l hst D cI ad f lo hi T Dv C Tn Dn Cn p1 p2 p3 sa hT hDv hC hI) ⟨hx, hb, hml, hown, hts⟩ (cwV 3 hts gL_inside_X1_inside rfl rfl rfl (by decide +kernel) ⟨Nat.le_of_ble_eq_true rfl, Nat.le_of_ble_eq_true rfl⟩) (hK.sub [0] rfl) hth hP hD hS hA [0, 1, 2, 3, 4, 5, 6, 7, 8, 9, 10, 11, 12, 13, 14, 15] [16] [1, 2, 3, 4, 5, 6, 7, 8, 9, 10, 11, 12, 13, 14, 15, 16, 0] rfl (by decide) rfl (by decide) (by decide) (by decide) (fun _ => rfl) rfl rfl rfl rfl hl.1 rfl (Nat.le_of_ble_eq_true rfl) dL_inside_7 ⟨Nat.le_of_ble_eq_true rfl, Nat.le_of_ble_eq_true rfl⟩ (fun E ce q9 u9 H locs q7 hP hD hS g1 g2 g3 => ?_) (fun r7 u9 H locs q7 hP hD hS => ?_)
  · try dsimp only at q7
    have hP : va_P D vwCl (WO cI cJ ad ao f u9.1 u9.2 T Dv C og) H := hP
    have hD : va_D A (WO cI cJ ad ao f u9.1 u9.2 T Dv C og) := hD
    rcases q7 with ⟨rfl, q7⟩ | ⟨rfl, q7⟩
    · refine vx_catch hown [] (⟨0, 12, 15, 13⟩ : ExceptionTableEntry) [(⟨0, 12, 19, 15⟩ : ExceptionTableEntry)] (htab.trans rfl) (fun z hz => nomatch hz) (by decide) (by decide) l13 (va_Nw.use rfl hcI) g1 g2 g3 ?_
      refine lv_astore (lv' := [(5, .ref q9), (0, .ref (ad 0)), (1, .int p1), (2, .int p2), (3, .int p3), (4, .ref ao)]) hx hb dL_inside_15 hl (by decide) rfl (fun ls hl => ?_)
      refine lv_iconst (v := 1) hx hb dL_inside_17 (by decide) ?_
      exact c_rl (u9.1, u9.2, og) hx hb hr hlocks hK hP hD hS dL_inside_18 (by decide) (by decide) ⟨0, Or.inl ⟨q7, rfl⟩, fun h => absurd h (by decide)⟩
    · refine vx_catch hown [(⟨0, 12, 15, 13⟩ : ExceptionTableEntry)] (⟨0, 12, 19, 15⟩ : ExceptionTableEntry) [] (htab.trans rfl) (fun z hz => by
        rcases List.mem_singleton.mp hz with rfl
        exact Or.inr ⟨by decide, eI, l13, hnc⟩) (by decide) (by decide) l15 (va_Nw.use rfl hcN) g1 g2 g3 ?_
      refine lv_astore (lv' := [(5, .ref q9), (0, .ref (ad 0)), (1, .int p1), (2, .int p2), (3, .int p3), (4, .ref ao)]) hx hb dL_inside_19 hl (by decide) rfl (fun ls hl => ?_)
      refine lv_iconst (v := 2) hx hb dL_inside_21 (by decide) ?_
      exact c_rl (u9.1, u9.2, og) hx hb hr hlocks hK hP hD hS dL_inside_22 (by decide) (by decide) ⟨0, Or.inr (Or.inl ⟨q7.1, q7.2, rfl⟩), fun h => absurd h (by decide)⟩
  · try dsimp only at q7
    have hP : va_P D vwCl (WO cI cJ ad ao f u9.1 u9.2 T Dv C og) H := hP
    have hD : va_D A (WO cI cJ ad ao f u9.1 u9.2 T Dv C og) := hD
    refine lv_i2l (v := r7.toInt64) hx hb dL_inside_10 rfl ?_
    refine va_last hx hb hK hP hD hS 16 1 rfl rfl (t_in (j := 0) rfl (by decide)) dL_inside_11 (fun H locs hP hD hS => ?_)
    have hP : va_P D vwCl (WO cI cJ ad ao f u9.1 u9.2 T Dv C (vp_updL og (0 : Int32).toNatClampNeg r7.toInt64)) H := hP
    have hD : va_D A (WO cI cJ ad ao f u9.1 u9.2 T Dv C (vp_updL og (0 : Int32).toNatClampNeg r7.toInt64)) := hD
    refine lv_goto (tgt := 23) hx hb dL_inside_12 (by decide) ?_
    refine lv_iconst (v := 0) hx hb dL_inside_23 (by decide) ?_
    exact c_rl (u9.1, u9.2, (vp_updL og (0 : Int32).toNatClampNeg r7.toInt64)) hx hb hr hlocks hK hP hD hS dL_inside_24 (by decide) (by decide) ⟨r7, q7, fun _ => rfl⟩
set_option maxHeartbeats 4000000 in
set_option maxRecDepth 100000 in
theorem kL_through (l : Launch) (hst : l.stackTraces = false) (D : va_G) (cI cJ : ClassId) (ad : Nat → Nat) (sa : Nat → Nat) (ao : Nat) (f : Nat → Nat → Int32) (lo hi : Nat → Int32) (T Dv C : Int32) (og : Nat → Int64) (Tn Dn Cn : Nat) (p1 p2 p3 : Int32) (hT : T.toInt = (Tn : Int)) (hDv : Dv.toInt = (Dn : Int)) (hC : C.toInt = (Cn : Int)) (hI : Inv f Tn Dn Cn) : ML l yL_through vsL_through ({ frames := 7, cells := 1, slots := 6, locals := 159 } : Room) D [(cI, .int), (cJ, .long)] [.ref (ad 0), .int p1, .int p2, .int p3, .ref ao] (WO cI cJ ad ao f lo hi T Dv C og) sa (fun u : (Nat → Int32) × (Nat → Int32) × (Nat → Int64) => WO cI cJ ad ao f u.1 u.2.1 T Dv C u.2.2) (fun (r : Int32) (u : (Nat → Int32) × (Nat → Int32) × (Nat → Int64)) => ∃ v : Int32, TH (Trv f Tn Dn Cn) f Tn Dn Cn p1.toInt p2.toInt p3.toInt (r.toInt) (v.toInt) ∧ (r.toInt = 0 → u.2.2 0 = v.toInt64)) := by
  refine c_entL (cc := cL_through) (maxL := 6) (ret := some .int) (hh := [(0, 12, 15, 13), (0, 12, 19, 15)]) (by decide) rfl (Nat.le_of_ble_eq_true rfl) ?_
  intro p e s m below meth c A ls hx hb hr hlocks hts hown hml hK hP hD hA hl htab hth hnc
  have hS : va_S A s.heap s.heap [] := va_S.rf
  have hl : lv_has ls 6 [(0, .ref (ad 0)), (1, .int p1), (2, .int p2), (3, .int p3), (4, .ref ao)] := hl
  have hP : va_P D vwCl (WO cI cJ ad ao f lo hi T Dv C og) s.heap := hP
  have hcI := hth.2.2.2.1
  have hcN := hth.2.2.2.2.1
  have l13 := hts (.classLink RL 13 eI) (by decide +kernel)
  have l15 := hts (.classLink RL 15 eN) (by decide +kernel)
  refine lv_aload hx hb dL_through_0 (lv_at hl 4 rfl) ?_
  refine lv_iconst (v := 0) hx hb dL_through_2 (by decide) ?_
  refine lv_aload_n hx hb dL_through_3 rfl (lv_at hl 0 rfl) ?_
  refine lv_iload_n hx hb dL_through_4 rfl (lv_at hl 1 rfl) ?_
  refine lv_iload_n hx hb dL_through_5 rfl (lv_at hl 2 rfl) ?_
  refine lv_iload_n hx hb dL_through_6 rfl (lv_at hl 3 rfl) ?_
  refine c_cvx (tys' := []) (As := [.int p1, .int p2, .int p3]) (ci := 1) (q0 := 0) (wr := [(ao, .inl (cJ, 1, .inr (.inl og)))]) (wF := (fun u : (Nat → Int32) × (Nat → Int32) => WO cI cJ ad ao f u.1 u.2 T Dv C og)) (kX1_through l hst D cI ad f lo hi T Dv C Tn Dn Cn p1 p2 p3 sa hT hDv hC hI) ⟨hx, hb, hml, hown, hts⟩ (cwV 3 hts gL_through_X1_through rfl rfl rfl (by decide +kernel) ⟨Nat.le_of_ble_eq_true rfl, Nat.le_of_ble_eq_true rfl⟩) (hK.sub [0] rfl) hth hP hD hS hA [0, 1, 2, 3, 4, 5, 6, 7, 8, 9, 10, 11, 12, 13, 14, 15] [16] [1, 2, 3, 4, 5, 6, 7, 8, 9, 10, 11, 12, 13, 14, 15, 16, 0] rfl (by decide) rfl (by decide) (by decide) (by decide) (fun _ => rfl) rfl rfl rfl rfl hl.1 rfl (Nat.le_of_ble_eq_true rfl) dL_through_7 ⟨Nat.le_of_ble_eq_true rfl, Nat.le_of_ble_eq_true rfl⟩ (fun E ce q9 u9 H locs q7 hP hD hS g1 g2 g3 => ?_) (fun r7 u9 H locs q7 hP hD hS => ?_)
  · try dsimp only at q7
    have hP : va_P D vwCl (WO cI cJ ad ao f u9.1 u9.2 T Dv C og) H := hP
    have hD : va_D A (WO cI cJ ad ao f u9.1 u9.2 T Dv C og) := hD
    rcases q7 with ⟨rfl, q7⟩ | ⟨rfl, q7⟩
    · refine vx_catch hown [] (⟨0, 12, 15, 13⟩ : ExceptionTableEntry) [(⟨0, 12, 19, 15⟩ : ExceptionTableEntry)] (htab.trans rfl) (fun z hz => nomatch hz) (by decide) (by decide) l13 (va_Nw.use rfl hcI) g1 g2 g3 ?_
      refine lv_astore (lv' := [(5, .ref q9), (0, .ref (ad 0)), (1, .int p1), (2, .int p2), (3, .int p3), (4, .ref ao)]) hx hb dL_through_15 hl (by decide) rfl (fun ls hl => ?_)
      refine lv_iconst (v := 1) hx hb dL_through_17 (by decide) ?_
      exact c_rl (u9.1, u9.2, og) hx hb hr hlocks hK hP hD hS dL_through_18 (by decide) (by decide) ⟨0, Or.inl ⟨q7, rfl⟩, fun h => absurd h (by decide)⟩
    · refine vx_catch hown [(⟨0, 12, 15, 13⟩ : ExceptionTableEntry)] (⟨0, 12, 19, 15⟩ : ExceptionTableEntry) [] (htab.trans rfl) (fun z hz => by
        rcases List.mem_singleton.mp hz with rfl
        exact Or.inr ⟨by decide, eI, l13, hnc⟩) (by decide) (by decide) l15 (va_Nw.use rfl hcN) g1 g2 g3 ?_
      refine lv_astore (lv' := [(5, .ref q9), (0, .ref (ad 0)), (1, .int p1), (2, .int p2), (3, .int p3), (4, .ref ao)]) hx hb dL_through_19 hl (by decide) rfl (fun ls hl => ?_)
      refine lv_iconst (v := 2) hx hb dL_through_21 (by decide) ?_
      exact c_rl (u9.1, u9.2, og) hx hb hr hlocks hK hP hD hS dL_through_22 (by decide) (by decide) ⟨0, Or.inr (Or.inl ⟨q7.1, q7.2, rfl⟩), fun h => absurd h (by decide)⟩
  · try dsimp only at q7
    have hP : va_P D vwCl (WO cI cJ ad ao f u9.1 u9.2 T Dv C og) H := hP
    have hD : va_D A (WO cI cJ ad ao f u9.1 u9.2 T Dv C og) := hD
    refine lv_i2l (v := r7.toInt64) hx hb dL_through_10 rfl ?_
    refine va_last hx hb hK hP hD hS 16 1 rfl rfl (t_in (j := 0) rfl (by decide)) dL_through_11 (fun H locs hP hD hS => ?_)
    have hP : va_P D vwCl (WO cI cJ ad ao f u9.1 u9.2 T Dv C (vp_updL og (0 : Int32).toNatClampNeg r7.toInt64)) H := hP
    have hD : va_D A (WO cI cJ ad ao f u9.1 u9.2 T Dv C (vp_updL og (0 : Int32).toNatClampNeg r7.toInt64)) := hD
    refine lv_goto (tgt := 23) hx hb dL_through_12 (by decide) ?_
    refine lv_iconst (v := 0) hx hb dL_through_23 (by decide) ?_
    exact c_rl (u9.1, u9.2, (vp_updL og (0 : Int32).toNatClampNeg r7.toInt64)) hx hb hr hlocks hK hP hD hS dL_through_24 (by decide) (by decide) ⟨r7, q7, fun _ => rfl⟩
set_option maxHeartbeats 4000000 in
set_option maxRecDepth 100000 in
theorem kL_look (l : Launch) (hst : l.stackTraces = false) (D : va_G) (cI cJ : ClassId) (ad : Nat → Nat) (sa : Nat → Nat) (ao : Nat) (f : Nat → Nat → Int32) (lo hi : Nat → Int32) (T Dv C : Int32) (og : Nat → Int64) (Tn Dn Cn : Nat) (p1 p2 : Int32) (hT : T.toInt = (Tn : Int)) (hDv : Dv.toInt = (Dn : Int)) (hC : C.toInt = (Cn : Int)) (hI : Inv f Tn Dn Cn) : ML l yL_look vsL_look ({ frames := 7, cells := 1, slots := 6, locals := 112 } : Room) D [(cI, .int), (cJ, .long)] [.ref (ad 0), .int p1, .int p2, .ref ao] (WO cI cJ ad ao f lo hi T Dv C og) sa (fun u : (Nat → Int64) => WO cI cJ ad ao f lo hi T Dv C u) (fun (r : Int32) (u : (Nat → Int64)) => ∃ v : Int32, LK f Tn Dn p1.toInt p2.toInt (r.toInt) (v.toInt) ∧ (r.toInt = 0 → u 0 = v.toInt64)) := by
  refine c_entL (cc := cL_look) (maxL := 5) (ret := some .int) (hh := [(0, 10, 13, 13), (0, 10, 17, 15)]) (by decide) rfl (Nat.le_of_ble_eq_true rfl) ?_
  intro p e s m below meth c A ls hx hb hr hlocks hts hown hml hK hP hD hA hl htab hth hnc
  have hS : va_S A s.heap s.heap [] := va_S.rf
  have hl : lv_has ls 5 [(0, .ref (ad 0)), (1, .int p1), (2, .int p2), (3, .ref ao)] := hl
  have hP : va_P D vwCl (WO cI cJ ad ao f lo hi T Dv C og) s.heap := hP
  have hcI := hth.2.2.2.1
  have hcN := hth.2.2.2.2.1
  have l13 := hts (.classLink RL 13 eI) (by decide +kernel)
  have l15 := hts (.classLink RL 15 eN) (by decide +kernel)
  refine lv_aload_n hx hb dL_look_0 rfl (lv_at hl 3 rfl) ?_
  refine lv_iconst (v := 0) hx hb dL_look_1 (by decide) ?_
  refine lv_aload_n hx hb dL_look_2 rfl (lv_at hl 0 rfl) ?_
  refine lv_iload_n hx hb dL_look_3 rfl (lv_at hl 1 rfl) ?_
  refine lv_iload_n hx hb dL_look_4 rfl (lv_at hl 2 rfl) ?_
  refine c_cvx (tys' := []) (As := [.int p1, .int p2]) (ci := 1) (q0 := 0) (wr := [(ao, .inl (cJ, 1, .inr (.inl og)))]) (wF := (fun _ : Unit => WO cI cJ ad ao f lo hi T Dv C og)) (kX1_look l hst D cI ad f lo hi T Dv C Tn Dn Cn p1 p2 sa hT hDv hC hI) ⟨hx, hb, hml, hown, hts⟩ (cwV 2 hts gL_look_X1_look rfl rfl rfl (by decide +kernel) ⟨Nat.le_of_ble_eq_true rfl, Nat.le_of_ble_eq_true rfl⟩) (hK.sub [0] rfl) hth hP hD hS hA [0, 1, 2, 3, 4, 5, 6, 7, 8, 9, 10, 11, 12, 13, 14, 15] [16] [1, 2, 3, 4, 5, 6, 7, 8, 9, 10, 11, 12, 13, 14, 15, 16, 0] rfl (by decide) rfl (by decide) (by decide) (by decide) (fun _ => rfl) rfl rfl rfl rfl hl.1 rfl (Nat.le_of_ble_eq_true rfl) dL_look_5 ⟨Nat.le_of_ble_eq_true rfl, Nat.le_of_ble_eq_true rfl⟩ (fun E ce q9 u9 H locs q7 hP hD hS g1 g2 g3 => ?_) (fun r7 u9 H locs q7 hP hD hS => ?_)
  · try dsimp only at q7
    have hP : va_P D vwCl (WO cI cJ ad ao f lo hi T Dv C og) H := hP
    have hD : va_D A (WO cI cJ ad ao f lo hi T Dv C og) := hD
    rcases q7 with ⟨rfl, q7⟩ | ⟨rfl, q7⟩
    · refine vx_catch hown [] (⟨0, 10, 13, 13⟩ : ExceptionTableEntry) [(⟨0, 10, 17, 15⟩ : ExceptionTableEntry)] (htab.trans rfl) (fun z hz => nomatch hz) (by decide) (by decide) l13 (va_Nw.use rfl hcI) g1 g2 g3 ?_
      refine lv_astore (lv' := [(4, .ref q9), (0, .ref (ad 0)), (1, .int p1), (2, .int p2), (3, .ref ao)]) hx hb dL_look_13 hl (by decide) rfl (fun ls hl => ?_)
      refine lv_iconst (v := 1) hx hb dL_look_15 (by decide) ?_
      exact c_rl og hx hb hr hlocks hK hP hD hS dL_look_16 (by decide) (by decide) ⟨0, Or.inl ⟨q7, rfl⟩, fun h => absurd h (by decide)⟩
    · refine vx_catch hown [(⟨0, 10, 13, 13⟩ : ExceptionTableEntry)] (⟨0, 10, 17, 15⟩ : ExceptionTableEntry) [] (htab.trans rfl) (fun z hz => by
        rcases List.mem_singleton.mp hz with rfl
        exact Or.inr ⟨by decide, eI, l13, hnc⟩) (by decide) (by decide) l15 (va_Nw.use rfl hcN) g1 g2 g3 ?_
      refine lv_astore (lv' := [(4, .ref q9), (0, .ref (ad 0)), (1, .int p1), (2, .int p2), (3, .ref ao)]) hx hb dL_look_17 hl (by decide) rfl (fun ls hl => ?_)
      refine lv_iconst (v := 2) hx hb dL_look_19 (by decide) ?_
      exact c_rl og hx hb hr hlocks hK hP hD hS dL_look_20 (by decide) (by decide) ⟨0, Or.inr (Or.inl ⟨q7.1, q7.2, rfl⟩), fun h => absurd h (by decide)⟩
  · try dsimp only at q7
    have hP : va_P D vwCl (WO cI cJ ad ao f lo hi T Dv C og) H := hP
    have hD : va_D A (WO cI cJ ad ao f lo hi T Dv C og) := hD
    refine lv_i2l (v := r7.toInt64) hx hb dL_look_8 rfl ?_
    refine va_last hx hb hK hP hD hS 16 1 rfl rfl (t_in (j := 0) rfl (by decide)) dL_look_9 (fun H locs hP hD hS => ?_)
    have hP : va_P D vwCl (WO cI cJ ad ao f lo hi T Dv C (vp_updL og (0 : Int32).toNatClampNeg r7.toInt64)) H := hP
    have hD : va_D A (WO cI cJ ad ao f lo hi T Dv C (vp_updL og (0 : Int32).toNatClampNeg r7.toInt64)) := hD
    refine lv_goto (tgt := 21) hx hb dL_look_10 (by decide) ?_
    refine lv_iconst (v := 0) hx hb dL_look_21 (by decide) ?_
    exact c_rl (vp_updL og (0 : Int32).toNatClampNeg r7.toInt64) hx hb hr hlocks hK hP hD hS dL_look_22 (by decide) (by decide) ⟨r7, q7, fun _ => rfl⟩
