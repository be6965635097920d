set_option maxHeartbeats 4000000 in
set_option maxRecDepth 100000 in
theorem kX1_within (l : Launch) (D : va_G) (cI : ClassId) (p0 : Int32) (p1 : Int32) (p2 : Int32) : MI l yX1_within wsX1_within ({ frames := 0, cells := 0, slots := 0, locals := 0 } : Room) D [(cI, .int)] [.int p0, .int p1, .int p2] [] (fun u : Unit => []) (fun (r : Int32) (_ : Unit) => ((r.toInt = 1 ∧ (p1.toInt ≤ p0.toInt ∧ p0.toInt ≤ p2.toInt)) ∨ (r.toInt = 0 ∧ ¬ (p1.toInt ≤ p0.toInt ∧ p0.toInt ≤ p2.toInt)))) := by
  refine c_ent (cc := cX1_within) (maxL := 3) (ret := (some .boolean)) (Qc := fun A => va_Qi (fun (r : Int32) (_ : Unit) => ((r.toInt = 1 ∧ (p1.toInt ≤ p0.toInt ∧ p0.toInt ≤ p2.toInt)) ∨ (r.toInt = 0 ∧ ¬ (p1.toInt ≤ p0.toInt ∧ p0.toInt ≤ p2.toInt)))) (cB D [(cI, .int)] A (fun u : Unit => [])) A) (by decide) rfl (Nat.le_of_ble_eq_true rfl) ?_
  intro p e s m below meth c A ls hx hb hr hlocks hts hown hml hK hP hD hA hl
  have hS : va_S A s.heap s.heap [] := va_S.rf
  have hl : lv_has ls 3 [(0, .int p0), (1, .int p1), (2, .int p2)] := hl
  have hP : va_P D vwCl [] s.heap := hP
  refine lv_iload_n hx hb dX1_within_0 rfl (lv_at hl 1 rfl) ?_
  refine lv_iload_n hx hb dX1_within_1 rfl (lv_at hl 0 rfl) ?_
  refine c_icmp_gt (tgt := 14) hx hb dX1_within_2 (by decide) (fun c2 => ?_) (fun c2 => ?_)
  · skip
    refine c_iconst hx hb dX1_within_14 (by decide) (fun v14 i14 => ?_)
    exact c_rz () hx hb hr hlocks hK hP hD hS dX1_within_15 (by omega) (by (try dsimp only); omega)
  · skip
    refine lv_iload_n hx hb dX1_within_5 rfl (lv_at hl 0 rfl) ?_
    refine lv_iload_n hx hb dX1_within_6 rfl (lv_at hl 2 rfl) ?_
    refine c_icmp_gt (tgt := 14) hx hb dX1_within_7 (by decide) (fun c7 => ?_) (fun c7 => ?_)
    · skip
      refine c_iconst hx hb dX1_within_14 (by decide) (fun v14_2 i14_2 => ?_)
      exact c_rz () hx hb hr hlocks hK hP hD hS dX1_within_15 (by omega) (by (try dsimp only); omega)
    · skip
      refine c_iconst hx hb dX1_within_10 (by decide) (fun v10 i10 => ?_)
      refine lv_goto (tgt := 15) hx hb dX1_within_11 (by decide) ?_
      exact c_rz () hx hb hr hlocks hK hP hD hS dX1_within_15 (by omega) (by (try dsimp only); omega)
set_option maxHeartbeats 4000000 in
set_option maxRecDepth 100000 in
theorem kX1_isWhat (l : Launch) (D : va_G) (cI : ClassId) (p0 : Int32) : MI l yX1_isWhat wsX1_isWhat ({ frames := 1, cells := 0, slots := 0, locals := 22 } : Room) D [(cI, .int)] [.int p0] [] (fun u : Unit => []) (fun (r : Int32) (_ : Unit) => ((r.toInt = 1 ∧ (0 ≤ p0.toInt ∧ p0.toInt ≤ 2)) ∨ (r.toInt = 0 ∧ ¬ (0 ≤ p0.toInt ∧ p0.toInt ≤ 2)))) := by
  refine c_ent (cc := cX1_isWhat) (maxL := 1) (ret := (some .boolean)) (Qc := fun A => va_Qi (fun (r : Int32) (_ : Unit) => ((r.toInt = 1 ∧ (0 ≤ p0.toInt ∧ p0.toInt ≤ 2)) ∨ (r.toInt = 0 ∧ ¬ (0 ≤ p0.toInt ∧ p0.toInt ≤ 2)))) (cB D [(cI, .int)] A (fun u : Unit => [])) A) (by decide) rfl (Nat.le_of_ble_eq_true rfl) ?_
  intro p e s m below meth c A ls hx hb hr hlocks hts hown hml hK hP hD hA hl
  have hS : va_S A s.heap s.heap [] := va_S.rf
  have hl : lv_has ls 1 [(0, .int p0)] := hl
  have hP : va_P D vwCl [] s.heap := hP
  refine lv_iload_n hx hb dX1_isWhat_0 rfl (lv_at hl 0 rfl) ?_
  refine c_iconst hx hb dX1_isWhat_1 (by decide) (fun v1 i1 => ?_)
  refine c_iconst hx hb dX1_isWhat_2 (by decide) (fun v2 i2 => ?_)
  refine c_cpi (As := [.int p0, .int v1, .int v2]) (kX1_within l D cI p0 v1 v2) ⟨hx, hb, hml, hown, hts⟩ (va_cwS 3 hts gX1_isWhat_X1_within rfl rfl rfl (by decide +kernel) ⟨Nat.le_of_ble_eq_true rfl, Nat.le_of_ble_eq_true rfl⟩) hK hP hS hA rfl hl.1 rfl (Nat.le_of_ble_eq_true rfl) dX1_isWhat_3 ⟨Nat.zero_le _, Nat.zero_le _⟩ (fun r3 H locs q3 hP hS => ?_)
  try dsimp only at q3
  exact c_rz () hx hb hr hlocks hK hP hD hS dX1_isWhat_6 (by omega) (by (try dsimp only); omega)
set_option maxHeartbeats 4000000 in
set_option maxRecDepth 100000 in
theorem kX1_isSpanInside (l : Launch) (D : va_G) (cI : ClassId) (p0 : Int32) (p1 : Int32) : MI l yX1_isSpanInside wsX1_isSpanInside ({ frames := 0, cells := 0, slots := 0, locals := 0 } : Room) D [(cI, .int)] [.int p0, .int p1] [] (fun u : Unit => []) (fun (r : Int32) (_ : Unit) => ((r.toInt = 1 ∧ (0 ≤ p0.toInt ∧ p0.toInt ≤ p1.toInt ∧ p1.toInt ≤ 9999)) ∨ (r.toInt = 0 ∧ ¬ (0 ≤ p0.toInt ∧ p0.toInt ≤ p1.toInt ∧ p1.toInt ≤ 9999)))) := by
  refine c_ent (cc := cX1_isSpanInside) (maxL := 2) (ret := (some .boolean)) (Qc := fun A => va_Qi (fun (r : Int32) (_ : Unit) => ((r.toInt = 1 ∧ (0 ≤ p0.toInt ∧ p0.toInt ≤ p1.toInt ∧ p1.toInt ≤ 9999)) ∨ (r.toInt = 0 ∧ ¬ (0 ≤ p0.toInt ∧ p0.toInt ≤ p1.toInt ∧ p1.toInt ≤ 9999)))) (cB D [(cI, .int)] A (fun u : Unit => [])) A) (by decide) rfl (Nat.le_of_ble_eq_true rfl) ?_
  intro p e s m below meth c A ls hx hb hr hlocks hts hown hml hK hP hD hA hl
  have hS : va_S A s.heap s.heap [] := va_S.rf
  have hl : lv_has ls 2 [(0, .int p0), (1, .int p1)] := hl
  have hP : va_P D vwCl [] s.heap := hP
  refine c_iconst hx hb dX1_isSpanInside_0 (by decide) (fun v0 i0 => ?_)
  refine lv_iload_n hx hb dX1_isSpanInside_1 rfl (lv_at hl 0 rfl) ?_
  refine c_icmp_gt (tgt := 21) hx hb dX1_isSpanInside_2 (by decide) (fun c2 => ?_) (fun c2 => ?_)
  · skip
    refine c_iconst hx hb dX1_isSpanInside_21 (by decide) (fun v21 i21 => ?_)
    exact c_rz () hx hb hr hlocks hK hP hD hS dX1_isSpanInside_22 (by omega) (by (try dsimp only); omega)
  · skip
    refine lv_iload_n hx hb dX1_isSpanInside_5 rfl (lv_at hl 0 rfl) ?_
    refine lv_iload_n hx hb dX1_isSpanInside_6 rfl (lv_at hl 1 rfl) ?_
    refine c_icmp_gt (tgt := 21) hx hb dX1_isSpanInside_7 (by decide) (fun c7 => ?_) (fun c7 => ?_)
    · skip
      refine c_iconst hx hb dX1_isSpanInside_21 (by decide) (fun v21_2 i21_2 => ?_)
      exact c_rz () hx hb hr hlocks hK hP hD hS dX1_isSpanInside_22 (by omega) (by (try dsimp only); omega)
    · skip
      refine lv_iload_n hx hb dX1_isSpanInside_10 rfl (lv_at hl 1 rfl) ?_
      refine c_sipush hx hb dX1_isSpanInside_11 (by decide) (fun v11 i11 => ?_)
      refine c_icmp_gt (tgt := 21) hx hb dX1_isSpanInside_14 (by decide) (fun c14 => ?_) (fun c14 => ?_)
      · skip
        refine c_iconst hx hb dX1_isSpanInside_21 (by decide) (fun v21_3 i21_3 => ?_)
        exact c_rz () hx hb hr hlocks hK hP hD hS dX1_isSpanInside_22 (by omega) (by (try dsimp only); omega)
      · skip
        refine c_iconst hx hb dX1_isSpanInside_17 (by decide) (fun v17 i17 => ?_)
        refine lv_goto (tgt := 22) hx hb dX1_isSpanInside_18 (by decide) ?_
        exact c_rz () hx hb hr hlocks hK hP hD hS dX1_isSpanInside_22 (by omega) (by (try dsimp only); omega)
set_option maxHeartbeats 4000000 in
set_option maxRecDepth 100000 in
theorem kX1_place (l : Launch) (D : va_G) (cI : ClassId) (p0 : Int32) (p1 : Int32) (d : Nat) (t : Nat) (h0 : p0.toInt = (d : Int)) (h1 : p1.toInt = (t : Int)) (h2 : d ≤ 6 ∧ t ≤ 60) : MI l yX1_place wsX1_place ({ frames := 0, cells := 0, slots := 0, locals := 0 } : Room) D [(cI, .int)] [.int p0, .int p1] [] (fun u : Unit => []) (fun (r : Int32) (_ : Unit) => r.toInt = ((60 * d + t : Nat) : Int)) := by
  refine c_ent (cc := cX1_place) (maxL := 2) (ret := (some .int)) (Qc := fun A => va_Qi (fun (r : Int32) (_ : Unit) => r.toInt = ((60 * d + t : Nat) : Int)) (cB D [(cI, .int)] A (fun u : Unit => [])) A) (by decide) rfl (Nat.le_of_ble_eq_true rfl) ?_
  intro p e s m below meth c A ls hx hb hr hlocks hts hown hml hK hP hD hA hl
  have hS : va_S A s.heap s.heap [] := va_S.rf
  have hl : lv_has ls 2 [(0, .int p0), (1, .int p1)] := hl
  have hP : va_P D vwCl [] s.heap := hP
  refine lv_iload_n hx hb dX1_place_0 rfl (lv_at hl 0 rfl) ?_
  refine c_bipush hx hb dX1_place_1 (by decide) (fun v1 i1 => ?_)
  refine c_imul (a := p0.toInt) (b := 60) hx hb dX1_place_3 rfl (by omega) (by omega) (fun v3 i3 => ?_)
  refine lv_iload_n hx hb dX1_place_4 rfl (lv_at hl 1 rfl) ?_
  refine c_iadd hx hb dX1_place_5 (by omega) (fun v5 i5 => ?_)
  exact c_ri () hx hb hr hlocks hK hP hD hS dX1_place_6 (by (try dsimp only); omega)
set_option maxHeartbeats 4000000 in
set_option maxRecDepth 100000 in
theorem kX1_isDoor (l : Launch) (D : va_G) (cI : ClassId) (ad : Nat → Nat) (f : Nat → Nat → Int32) (lo : Nat → Int32) (hi : Nat → Int32) (T : Int32) (Dv : Int32) (C : Int32) (Tn : Nat) (Dn : Nat) (Cn : Nat) (p1 : Int32) (hT : T.toInt = (Tn : Int)) (hDv : Dv.toInt = (Dn : Int)) (hC : C.toInt = (Cn : Int)) (hI : Inv f Tn Dn Cn) : MI l yX1_isDoor wsX1_isDoor ({ frames := 1, cells := 0, slots := 0, locals := 22 } : Room) D [(cI, .int)] [.ref (ad 0), .int p1] (WX cI ad f lo hi T Dv C) (fun u : Unit => (WX cI ad f lo hi T Dv C)) (fun (r : Int32) (_ : Unit) => ((r.toInt = 1 ∧ (0 ≤ p1.toInt ∧ p1.toInt < (Dn : Int))) ∨ (r.toInt = 0 ∧ ¬ (0 ≤ p1.toInt ∧ p1.toInt < (Dn : Int))))) := by
  refine c_ent (cc := cX1_isDoor) (maxL := 2) (ret := (some .boolean)) (Qc := fun A => va_Qi (fun (r : Int32) (_ : Unit) => ((r.toInt = 1 ∧ (0 ≤ p1.toInt ∧ p1.toInt < (Dn : Int))) ∨ (r.toInt = 0 ∧ ¬ (0 ≤ p1.toInt ∧ p1.toInt < (Dn : Int))))) (cB D [(cI, .int)] A (fun u : Unit => (WX cI ad f lo hi T Dv C))) A) (by decide) rfl (Nat.le_of_ble_eq_true rfl) ?_
  intro p e s m below meth c A ls hx hb hr hlocks hts hown hml hK hP hD hA hl
  have hS : va_S A s.heap s.heap [] := va_S.rf
  have hl : lv_has ls 2 [(0, .ref (ad 0)), (1, .int p1)] := hl
  have hP : va_P D vwCl (WX cI ad f lo hi T Dv C) s.heap := hP
  have fl61 := hts (.fieldLink RX1 61 "DoorBench" "doors" "I") (by decide +kernel)
  have inX1 : ∀ w ∈ wsX10, w ∈ wsX1_isDoor := by decide +kernel
  obtain ⟨hI0, hId, hIr, hIs, hIc⟩ := id hI
  refine lv_iload_n hx hb dX1_isDoor_0 rfl (lv_at hl 1 rfl) ?_
  refine c_iconst hx hb dX1_isDoor_1 (by decide) (fun v1 i1 => ?_)
  refine lv_aload_n hx hb dX1_isDoor_2 rfl (lv_at hl 0 rfl) ?_
  refine va_get (D := D) (ci := 1) (v := .int Dv) (C := RX1) (T := TX1) (N := 16) hx hb hts inX1 hown hK hP 0 rfl rfl 14 (by decide) fl61 (fun _ h9 => h9) rfl dX1_isDoor_3 ?_
  refine c_iconst hx hb dX1_isDoor_6 (by decide) (fun v6 i6 => ?_)
  refine c_isub hx hb dX1_isDoor_7 (by omega) (fun v7 i7 => ?_)
  refine c_cpi (As := [.int p1, .int v1, .int v7]) (kX1_within l D cI p1 v1 v7) ⟨hx, hb, hml, hown, hts⟩ (va_cwS 3 hts gX1_isDoor_X1_within rfl rfl rfl (by decide +kernel) ⟨Nat.le_of_ble_eq_true rfl, Nat.le_of_ble_eq_true rfl⟩) hK hP hS hA rfl hl.1 rfl (Nat.le_of_ble_eq_true rfl) dX1_isDoor_8 ⟨Nat.zero_le _, Nat.zero_le _⟩ (fun r8 H locs q8 hP hS => ?_)
  try dsimp only at q8
  exact c_rz () hx hb hr hlocks hK hP hD hS dX1_isDoor_11 (by omega) (by (try dsimp only); omega)
set_option maxHeartbeats 4000000 in
set_option maxRecDepth 100000 in
theorem kX1_isTick (l : Launch) (D : va_G) (cI : ClassId) (ad : Nat → Nat) (f : Nat → Nat → Int32) (lo : Nat → Int32) (hi : Nat → Int32) (T : Int32) (Dv : Int32) (C : Int32) (Tn : Nat) (Dn : Nat) (Cn : Nat) (p1 : Int32) (hT : T.toInt = (Tn : Int)) (hDv : Dv.toInt = (Dn : Int)) (hC : C.toInt = (Cn : Int)) (hI : Inv f Tn Dn Cn) : MI l yX1_isTick wsX1_isTick ({ frames := 1, cells := 0, slots := 0, locals := 22 } : Room) D [(cI, .int)] [.ref (ad 0), .int p1] (WX cI ad f lo hi T Dv C) (fun u : Unit => (WX cI ad f lo hi T Dv C)) (fun (r : Int32) (_ : Unit) => ((r.toInt = 1 ∧ (0 ≤ p1.toInt ∧ p1.toInt < (Tn : Int))) ∨ (r.toInt = 0 ∧ ¬ (0 ≤ p1.toInt ∧ p1.toInt < (Tn : Int))))) := by
  refine c_ent (cc := cX1_isTick) (maxL := 2) (ret := (some .boolean)) (Qc := fun A => va_Qi (fun (r : Int32) (_ : Unit) => ((r.toInt = 1 ∧ (0 ≤ p1.toInt ∧ p1.toInt < (Tn : Int))) ∨ (r.toInt = 0 ∧ ¬ (0 ≤ p1.toInt ∧ p1.toInt < (Tn : Int))))) (cB D [(cI, .int)] A (fun u : Unit => (WX cI ad f lo hi T Dv C))) A) (by decide) rfl (Nat.le_of_ble_eq_true rfl) ?_
  intro p e s m below meth c A ls hx hb hr hlocks hts hown hml hK hP hD hA hl
  have hS : va_S A s.heap s.heap [] := va_S.rf
  have hl : lv_has ls 2 [(0, .ref (ad 0)), (1, .int p1)] := hl
  have hP : va_P D vwCl (WX cI ad f lo hi T Dv C) s.heap := hP
  have fl141 := hts (.fieldLink RX1 141 "DoorBench" "ticks" "I") (by decide +kernel)
  have inX1 : ∀ w ∈ wsX10, w ∈ wsX1_isTick := by decide +kernel
  obtain ⟨hI0, hId, hIr, hIs, hIc⟩ := id hI
  refine lv_iload_n hx hb dX1_isTick_0 rfl (lv_at hl 1 rfl) ?_
  refine c_iconst hx hb dX1_isTick_1 (by decide) (fun v1 i1 => ?_)
  refine lv_aload_n hx hb dX1_isTick_2 rfl (lv_at hl 0 rfl) ?_
  refine va_get (D := D) (ci := 1) (v := .int T) (C := RX1) (T := TX1) (N := 16) hx hb hts inX1 hown hK hP 0 rfl rfl 13 (by decide) fl141 (fun _ h9 => h9) rfl dX1_isTick_3 ?_
  refine c_iconst hx hb dX1_isTick_6 (by decide) (fun v6 i6 => ?_)
  refine c_isub hx hb dX1_isTick_7 (by omega) (fun v7 i7 => ?_)
  refine c_cpi (As := [.int p1, .int v1, .int v7]) (kX1_within l D cI p1 v1 v7) ⟨hx, hb, hml, hown, hts⟩ (va_cwS 3 hts gX1_isTick_X1_within rfl rfl rfl (by decide +kernel) ⟨Nat.le_of_ble_eq_true rfl, Nat.le_of_ble_eq_true rfl⟩) hK hP hS hA rfl hl.1 rfl (Nat.le_of_ble_eq_true rfl) dX1_isTick_8 ⟨Nat.zero_le _, Nat.zero_le _⟩ (fun r8 H locs q8 hP hS => ?_)
  try dsimp only at q8
  exact c_rz () hx hb hr hlocks hK hP hD hS dX1_isTick_11 (by omega) (by (try dsimp only); omega)
set_option maxHeartbeats 4000000 in
set_option maxRecDepth 100000 in
theorem kX1_isTime (l : Launch) (D : va_G) (cI : ClassId) (ad : Nat → Nat) (f : Nat → Nat → Int32) (lo : Nat → Int32) (hi : Nat → Int32) (T : Int32) (Dv : Int32) (C : Int32) (Tn : Nat) (Dn : Nat) (Cn : Nat) (p1 : Int32) (hT : T.toInt = (Tn : Int)) (hDv : Dv.toInt = (Dn : Int)) (hC : C.toInt = (Cn : Int)) (hI : Inv f Tn Dn Cn) : MI l yX1_isTime wsX1_isTime ({ frames := 1, cells := 0, slots := 0, locals := 22 } : Room) D [(cI, .int)] [.ref (ad 0), .int p1] (WX cI ad f lo hi T Dv C) (fun u : Unit => (WX cI ad f lo hi T Dv C)) (fun (r : Int32) (_ : Unit) => ((r.toInt = 1 ∧ (0 ≤ p1.toInt ∧ p1.toInt ≤ (Tn : Int))) ∨ (r.toInt = 0 ∧ ¬ (0 ≤ p1.toInt ∧ p1.toInt ≤ (Tn : Int))))) := by
  refine c_ent (cc := cX1_isTime) (maxL := 2) (ret := (some .boolean)) (Qc := fun A => va_Qi (fun (r : Int32) (_ : Unit) => ((r.toInt = 1 ∧ (0 ≤ p1.toInt ∧ p1.toInt ≤ (Tn : Int))) ∨ (r.toInt = 0 ∧ ¬ (0 ≤ p1.toInt ∧ p1.toInt ≤ (Tn : Int))))) (cB D [(cI, .int)] A (fun u : Unit => (WX cI ad f lo hi T Dv C))) A) (by decide) rfl (Nat.le_of_ble_eq_true rfl) ?_
  intro p e s m below meth c A ls hx hb hr hlocks hts hown hml hK hP hD hA hl
  have hS : va_S A s.heap s.heap [] := va_S.rf
  have hl : lv_has ls 2 [(0, .ref (ad 0)), (1, .int p1)] := hl
  have hP : va_P D vwCl (WX cI ad f lo hi T Dv C) s.heap := hP
  have fl141 := hts (.fieldLink RX1 141 "DoorBench" "ticks" "I") (by decide +kernel)
  have inX1 : ∀ w ∈ wsX10, w ∈ wsX1_isTime := by decide +kernel
  obtain ⟨hI0, hId, hIr, hIs, hIc⟩ := id hI
  refine lv_iload_n hx hb dX1_isTime_0 rfl (lv_at hl 1 rfl) ?_
  refine c_iconst hx hb dX1_isTime_1 (by decide) (fun v1 i1 => ?_)
  refine lv_aload_n hx hb dX1_isTime_2 rfl (lv_at hl 0 rfl) ?_
  refine va_get (D := D) (ci := 1) (v := .int T) (C := RX1) (T := TX1) (N := 16) hx hb hts inX1 hown hK hP 0 rfl rfl 13 (by decide) fl141 (fun _ h9 => h9) rfl dX1_isTime_3 ?_
  refine c_cpi (As := [.int p1, .int v1, .int T]) (kX1_within l D cI p1 v1 T) ⟨hx, hb, hml, hown, hts⟩ (va_cwS 3 hts gX1_isTime_X1_within rfl rfl rfl (by decide +kernel) ⟨Nat.le_of_ble_eq_true rfl, Nat.le_of_ble_eq_true rfl⟩) hK hP hS hA rfl hl.1 rfl (Nat.le_of_ble_eq_true rfl) dX1_isTime_6 ⟨Nat.zero_le _, Nat.zero_le _⟩ (fun r6 H locs q6 hP hS => ?_)
  try dsimp only at q6
  exact c_rz () hx hb hr hlocks hK hP hD hS dX1_isTime_9 (by omega) (by (try dsimp only); omega)
set_option maxHeartbeats 4000000 in
set_option maxRecDepth 100000 in
theorem kX1_leastPassed (l : Launch) (D : va_G) (cI : ClassId) (ad : Nat → Nat) (f : Nat → Nat → Int32) (lo : Nat → Int32) (hi : Nat → Int32) (T : Int32) (Dv : Int32) (C : Int32) (Tn : Nat) (Dn : Nat) (Cn : Nat) (p1 : Int32) (p2 : Int32) (p3 : Int32) (d : Nat) (hT : T.toInt = (Tn : Int)) (hDv : Dv.toInt = (Dn : Int)) (hC : C.toInt = (Cn : Int)) (hI : Inv f Tn Dn Cn) (ht1 : -1 ≤ p1.toInt ∧ p1.toInt ≤ 20) (hd : p2.toInt = (d : Int)) (hdn : d < Dn) (hm : 0 ≤ p3.toInt ∧ p3.toInt ≤ 5) : MI l yX1_leastPassed wsX1_leastPassed ({ frames := 1, cells := 0, slots := 0, locals := 21 } : Room) D [(cI, .int)] [.ref (ad 0), .int p1, .int p2, .int p3] (WX cI ad f lo hi T Dv C) (fun u : Unit => (WX cI ad f lo hi T Dv C)) (fun (r : Int32) (_ : Unit) => r.toInt = lsP (f 2 d).toInt p3.toInt p1.toInt) := by
  refine c_ent (cc := cX1_leastPassed) (maxL := 4) (ret := (some .int)) (Qc := fun A => va_Qi (fun (r : Int32) (_ : Unit) => r.toInt = lsP (f 2 d).toInt p3.toInt p1.toInt) (cB D [(cI, .int)] A (fun u : Unit => (WX cI ad f lo hi T Dv C))) A) (by decide) rfl (Nat.le_of_ble_eq_true rfl) ?_
  intro p e s m below meth c A ls hx hb hr hlocks hts hown hml hK hP hD hA hl
  have hS : va_S A s.heap s.heap [] := va_S.rf
  have hl : lv_has ls 4 [(0, .ref (ad 0)), (1, .int p1), (2, .int p2), (3, .int p3)] := hl
  have hP : va_P D vwCl (WX cI ad f lo hi T Dv C) s.heap := hP
  have fl16 := hts (.fieldLink RX1 16 "DoorBench" "doubles" "[I") (by decide +kernel)
  have inX1 : ∀ w ∈ wsX10, w ∈ wsX1_leastPassed := by decide +kernel
  have ml154 := hts (.methodLink RX1 154 Lib.Math.max.name) (by decide +kernel)
  have ms154 := hts (.static Lib.Math.max.name) (by decide +kernel)
  have mi154 := hts (.initialized "java/lang/Math") (by decide +kernel)
  have mc154 := hts (.code Lib.Math.max.name Lib.Math.max.code 2 (some .int)) (by decide +kernel)
  obtain ⟨hI0, hId, hIr, hIs, hIc⟩ := id hI
  have q1 := hId d hdn
  refine lv_iload_n hx hb dX1_leastPassed_0 rfl (lv_at hl 1 rfl) ?_
  refine c_iconst hx hb dX1_leastPassed_1 (by decide) (fun v1 i1 => ?_)
  refine c_icmp_ne (tgt := 9) hx hb dX1_leastPassed_2 (by decide) (fun c2 => ?_) (fun c2 => ?_)
  · skip
    refine c_iconst hx hb dX1_leastPassed_9 (by decide) (fun v9 i9 => ?_)
    refine lv_iload_n hx hb dX1_leastPassed_10 rfl (lv_at hl 1 rfl) ?_
    refine lv_aload_n hx hb dX1_leastPassed_11 rfl (lv_at hl 0 rfl) ?_
    refine va_get (D := D) (ci := 1) (v := .ref (ad 3)) (C := RX1) (T := TX1) (N := 16) hx hb hts inX1 hown hK hP 0 rfl rfl 2 (by decide) fl16 (fun _ h9 => h9) rfl dX1_leastPassed_12 ?_
    refine lv_iload_n hx hb dX1_leastPassed_15 rfl (lv_at hl 2 rfl) ?_
    refine c_iald hx hb hK hP 3 0 rfl rfl (d) (by omega) (by omega) dX1_leastPassed_16 (fun v16 e16 => ?_)
    have i16 : v16.toInt = ((f 2) (d)).toInt := by rw [e16]
    refine c_isub hx hb dX1_leastPassed_17 (by omega) (fun v17 i17 => ?_)
    refine lv_iload_n hx hb dX1_leastPassed_18 rfl (lv_at hl 3 rfl) ?_
    refine c_isub hx hb dX1_leastPassed_19 (by omega) (fun v19 i19 => ?_)
    refine c_mmax hx hb (hml.trans hl.1.symm) hown ml154 ms154 mi154 mc154 (Nat.le_of_ble_eq_true rfl) (Nat.le_of_ble_eq_true rfl) (Nat.zero_le _) (Nat.zero_le _) dX1_leastPassed_20 (fun v20 i20 => ?_)
    exact c_ri () hx hb hr hlocks hK hP hD hS dX1_leastPassed_23 (by (try dsimp only); unfold lsP; split <;> omega)
  · skip
    refine c_iconst hx hb dX1_leastPassed_5 (by decide) (fun v5 i5 => ?_)
    refine lv_goto (tgt := 23) hx hb dX1_leastPassed_6 (by decide) ?_
    exact c_ri () hx hb hr hlocks hK hP hD hS dX1_leastPassed_23 (by (try dsimp only); unfold lsP; split <;> omega)
set_option maxHeartbeats 4000000 in
set_option maxRecDepth 100000 in
theorem kX1_mostPassed (l : Launch) (D : va_G) (cI : ClassId) (ad : Nat → Nat) (f : Nat → Nat → Int32) (lo : Nat → Int32) (hi : Nat → Int32) (T : Int32) (Dv : Int32) (C : Int32) (Tn : Nat) (Dn : Nat) (Cn : Nat) (p1 : Int32) (p2 : Int32) (p3 : Int32) (d : Nat) (hT : T.toInt = (Tn : Int)) (hDv : Dv.toInt = (Dn : Int)) (hC : C.toInt = (Cn : Int)) (hI : Inv f Tn Dn Cn) (ht1 : -1 ≤ p1.toInt ∧ p1.toInt ≤ 20) (hd : p2.toInt = (d : Int)) (hdn : d < Dn) (hm : 0 ≤ p3.toInt ∧ p3.toInt ≤ 5) : MI l yX1_mostPassed wsX1_mostPassed ({ frames := 0, cells := 0, slots := 0, locals := 0 } : Room) D [(cI, .int)] [.ref (ad 0), .int p1, .int p2, .int p3] (WX cI ad f lo hi T Dv C) (fun u : Unit => (WX cI ad f lo hi T Dv C)) (fun (r : Int32) (_ : Unit) => r.toInt = msP (f 3 d).toInt (f 1 d).toInt p3.toInt p1.toInt) := by
  refine c_ent (cc := cX1_mostPassed) (maxL := 4) (ret := (some .int)) (Qc := fun A => va_Qi (fun (r : Int32) (_ : Unit) => r.toInt = msP (f 3 d).toInt (f 1 d).toInt p3.toInt p1.toInt) (cB D [(cI, .int)] A (fun u : Unit => (WX cI ad f lo hi T Dv C))) A) (by decide) rfl (Nat.le_of_ble_eq_true rfl) ?_
  intro p e s m below meth c A ls hx hb hr hlocks hts hown hml hK hP hD hA hl
  have hS : va_S A s.heap s.heap [] := va_S.rf
  have hl : lv_has ls 4 [(0, .ref (ad 0)), (1, .int p1), (2, .int p2), (3, .int p3)] := hl
  have hP : va_P D vwCl (WX cI ad f lo hi T Dv C) s.heap := hP
  have fl13 := hts (.fieldLink RX1 13 "DoorBench" "misses" "[I") (by decide +kernel)
  have fl19 := hts (.fieldLink RX1 19 "DoorBench" "caps" "[I") (by decide +kernel)
  have inX1 : ∀ w ∈ wsX10, w ∈ wsX1_mostPassed := by decide +kernel
  obtain ⟨hI0, hId, hIr, hIs, hIc⟩ := id hI
  have q1 := hId d hdn
  refine lv_iload_n hx hb dX1_mostPassed_0 rfl (lv_at hl 1 rfl) ?_
  refine c_iconst hx hb dX1_mostPassed_1 (by decide) (fun v1 i1 => ?_)
  refine c_icmp_ne (tgt := 14) hx hb dX1_mostPassed_2 (by decide) (fun c2 => ?_) (fun c2 => ?_)
  · skip
    refine lv_iload_n hx hb dX1_mostPassed_14 rfl (lv_at hl 1 rfl) ?_
    refine lv_aload_n hx hb dX1_mostPassed_15 rfl (lv_at hl 0 rfl) ?_
    refine va_get (D := D) (ci := 1) (v := .ref (ad 2)) (C := RX1) (T := TX1) (N := 16) hx hb hts inX1 hown hK hP 0 rfl rfl 1 (by decide) fl13 (fun _ h9 => h9) rfl dX1_mostPassed_16 ?_
    refine lv_iload_n hx hb dX1_mostPassed_19 rfl (lv_at hl 2 rfl) ?_
    refine c_iald hx hb hK hP 2 0 rfl rfl (d) (by omega) (by omega) dX1_mostPassed_20 (fun v20 e20 => ?_)
    have i20 : v20.toInt = ((f 1) (d)).toInt := by rw [e20]
    refine c_iadd hx hb dX1_mostPassed_21 (by omega) (fun v21 i21 => ?_)
    refine lv_iload_n hx hb dX1_mostPassed_22 rfl (lv_at hl 3 rfl) ?_
    refine c_iadd hx hb dX1_mostPassed_23 (by omega) (fun v23 i23 => ?_)
    exact c_ri () hx hb hr hlocks hK hP hD hS dX1_mostPassed_24 (by (try dsimp only); unfold msP; split <;> omega)
  · skip
    refine lv_aload_n hx hb dX1_mostPassed_5 rfl (lv_at hl 0 rfl) ?_
    refine va_get (D := D) (ci := 1) (v := .ref (ad 4)) (C := RX1) (T := TX1) (N := 16) hx hb hts inX1 hown hK hP 0 rfl rfl 3 (by decide) fl19 (fun _ h9 => h9) rfl dX1_mostPassed_6 ?_
    refine lv_iload_n hx hb dX1_mostPassed_9 rfl (lv_at hl 2 rfl) ?_
    refine c_iald hx hb hK hP 4 0 rfl rfl (d) (by omega) (by omega) dX1_mostPassed_10 (fun v10 e10 => ?_)
    have i10 : v10.toInt = ((f 3) (d)).toInt := by rw [e10]
    refine lv_goto (tgt := 24) hx hb dX1_mostPassed_11 (by decide) ?_
    exact c_ri () hx hb hr hlocks hK hP hD hS dX1_mostPassed_24 (by (try dsimp only); unfold msP; split <;> omega)
set_option maxHeartbeats 4000000 in
set_option maxRecDepth 100000 in
theorem kX1_leastNet (l : Launch) (D : va_G) (cI : ClassId) (ad : Nat → Nat) (f : Nat → Nat → Int32) (lo : Nat → Int32) (hi : Nat → Int32) (T : Int32) (Dv : Int32) (C : Int32) (Tn : Nat) (Dn : Nat) (Cn : Nat) (p1 : Int32) (p2 : Int32) (p3 : Int32) (d : Nat) (t : Nat) (hT : T.toInt = (Tn : Int)) (hDv : Dv.toInt = (Dn : Int)) (hC : C.toInt = (Cn : Int)) (hI : Inv f Tn Dn Cn) (hd : p1.toInt = (d : Int)) (hdn : d < Dn) (ht : p2.toInt = (t : Int)) (htn : t < Tn) (hm : 0 ≤ p3.toInt ∧ p3.toInt ≤ 5) : MI l yX1_leastNet wsX1_leastNet ({ frames := 2, cells := 0, slots := 0, locals := 44 } : Room) D [(cI, .int)] [.ref (ad 0), .int p1, .int p2, .int p3] (WX cI ad f lo hi T Dv C) (fun u : Unit => (WX cI ad f lo hi T Dv C)) (fun (r : Int32) (_ : Unit) => r.toInt = nLo f d t p3.toInt) := by
  refine c_ent (cc := cX1_leastNet) (maxL := 5) (ret := (some .int)) (Qc := fun A => va_Qi (fun (r : Int32) (_ : Unit) => r.toInt = nLo f d t p3.toInt) (cB D [(cI, .int)] A (fun u : Unit => (WX cI ad f lo hi T Dv C))) A) (by decide) rfl (Nat.le_of_ble_eq_true rfl) ?_
  intro p e s m below meth c A ls hx hb hr hlocks hts hown hml hK hP hD hA hl
  have hS : va_S A s.heap s.heap [] := va_S.rf
  have hl : lv_has ls 5 [(0, .ref (ad 0)), (1, .int p1), (2, .int p2), (3, .int p3)] := hl
  have hP : va_P D vwCl (WX cI ad f lo hi T Dv C) s.heap := hP
  have fl22 := hts (.fieldLink RX1 22 "DoorBench" "toldIn" "[I") (by decide +kernel)
  have fl25 := hts (.fieldLink RX1 25 "DoorBench" "toldOut" "[I") (by decide +kernel)
  have inX1 : ∀ w ∈ wsX10, w ∈ wsX1_leastNet := by decide +kernel
  obtain ⟨hI0, hId, hIr, hIs, hIc⟩ := id hI
  have q1 := hId d hdn
  have q2 := hIr (60 * d + t) (by omega)
  have q3 := n_bd (mr := p3.toInt) hI hdn htn hm.1 hm.2
  unfold nLo nHi lsP msP at q3
  refine lv_iload_n hx hb dX1_leastNet_0 rfl (lv_at hl 1 rfl) ?_
  refine lv_iload_n hx hb dX1_leastNet_1 rfl (lv_at hl 2 rfl) ?_
  refine c_cpi (As := [.int p1, .int p2]) (kX1_place l D cI p1 p2 (d) (t) (by omega) (by omega) (by omega)) ⟨hx, hb, hml, hown, hts⟩ (va_cwS 2 hts gX1_leastNet_X1_place rfl rfl rfl (by decide +kernel) ⟨Nat.le_of_ble_eq_true rfl, Nat.le_of_ble_eq_true rfl⟩) hK hP hS hA rfl hl.1 rfl (Nat.le_of_ble_eq_true rfl) dX1_leastNet_2 ⟨Nat.zero_le _, Nat.zero_le _⟩ (fun r2 H locs q2 hP hS => ?_)
  try dsimp only at q2
  skip
  refine lv_istore (lv' := [(4, .int r2), (0, .ref (ad 0)), (1, .int p1), (2, .int p2), (3, .int p3)]) hx hb dX1_leastNet_5 hl (by decide) rfl (fun ls hl => ?_)
  refine lv_aload_n hx hb dX1_leastNet_7 rfl (lv_at hl 1 rfl) ?_
  refine lv_aload_n hx hb dX1_leastNet_8 rfl (lv_at hl 1 rfl) ?_
  refine va_get (D := D) (ci := 1) (v := .ref (ad 5)) (C := RX1) (T := TX1) (N := 16) hx hb hts inX1 hown hK hP 0 rfl rfl 4 (by decide) fl22 (fun _ h9 => h9) rfl dX1_leastNet_9 ?_
  refine lv_iload hx hb dX1_leastNet_12 (lv_at hl 0 rfl) ?_
  refine c_iald hx hb hK hP 5 0 rfl rfl (60 * d + t) (by omega) (by omega) dX1_leastNet_14 (fun v14 e14 => ?_)
  have i14 : v14.toInt = ((f 4) (60 * d + t)).toInt := by rw [e14]
  refine lv_iload_n hx hb dX1_leastNet_15 rfl (lv_at hl 2 rfl) ?_
  refine lv_iload_n hx hb dX1_leastNet_16 rfl (lv_at hl 4 rfl) ?_
  refine c_wvi (As := [.int v14, .int p1, .int p3]) (ci := 1) (q0 := 0) (kX1_leastPassed l D cI ad f lo hi T Dv C Tn Dn Cn v14 p1 p3 (d) hT hDv hC hI (by omega) (by omega) (by omega) (by omega)) ⟨hx, hb, hml, hown, hts⟩ (cwV 3 hts gX1_leastNet_X1_leastPassed rfl rfl rfl (by decide +kernel) ⟨Nat.le_of_ble_eq_true rfl, Nat.le_of_ble_eq_true rfl⟩) hK hP hD hS hA rfl rfl rfl rfl hl.1 rfl (Nat.le_of_ble_eq_true rfl) dX1_leastNet_17 ⟨Nat.zero_le _, Nat.zero_le _⟩ (fun r17 u17 H locs q17 hP hD hS => ?_)
  try dsimp only at q17
  have hP : va_P D vwCl (WX cI ad f lo hi T Dv C) H := hP
  have hD : va_D A (WX cI ad f lo hi T Dv C) := hD
  rw [i14] at q17
  have b17 : 0 ≤ r17.toInt ∧ r17.toInt ≤ 30 := by (rw [q17]; first | unfold lsP | unfold msP); split <;> omega
  refine lv_aload_n hx hb dX1_leastNet_20 rfl (lv_at hl 1 rfl) ?_
  refine lv_aload_n hx hb dX1_leastNet_21 rfl (lv_at hl 1 rfl) ?_
  refine va_get (D := D) (ci := 1) (v := .ref (ad 6)) (C := RX1) (T := TX1) (N := 16) hx hb hts inX1 hown hK hP 0 rfl rfl 5 (by decide) fl25 (fun _ h9 => h9) rfl dX1_leastNet_22 ?_
  refine lv_iload hx hb dX1_leastNet_25 (lv_at hl 0 rfl) ?_
  refine c_iald hx hb hK hP 6 0 rfl rfl (60 * d + t) (by omega) (by omega) dX1_leastNet_27 (fun v27 e27 => ?_)
  have i27 : v27.toInt = ((f 5) (60 * d + t)).toInt := by rw [e27]
  refine lv_iload_n hx hb dX1_leastNet_28 rfl (lv_at hl 2 rfl) ?_
  refine lv_iload_n hx hb dX1_leastNet_29 rfl (lv_at hl 4 rfl) ?_
  refine c_wvi (As := [.int v27, .int p1, .int p3]) (ci := 1) (q0 := 0) (kX1_mostPassed l D cI ad f lo hi T Dv C Tn Dn Cn v27 p1 p3 (d) hT hDv hC hI (by omega) (by omega) (by omega) (by omega)) ⟨hx, hb, hml, hown, hts⟩ (cwV 3 hts gX1_leastNet_X1_mostPassed rfl rfl rfl (by decide +kernel) ⟨Nat.le_of_ble_eq_true rfl, Nat.le_of_ble_eq_true rfl⟩) hK hP hD hS hA rfl rfl rfl rfl hl.1 rfl (Nat.le_of_ble_eq_true rfl) dX1_leastNet_30 ⟨Nat.zero_le _, Nat.zero_le _⟩ (fun r30 u30 H locs q30 hP hD hS => ?_)
  try dsimp only at q30
  have hP : va_P D vwCl (WX cI ad f lo hi T Dv C) H := hP
  have hD : va_D A (WX cI ad f lo hi T Dv C) := hD
  rw [i27] at q30
  have b30 : 0 ≤ r30.toInt ∧ r30.toInt ≤ 30 := by (rw [q30]; first | unfold lsP | unfold msP); split <;> omega
  refine c_isub hx hb dX1_leastNet_33 (by omega) (fun v33 i33 => ?_)
  exact c_ri () hx hb hr hlocks hK hP hD hS dX1_leastNet_34 (by (try dsimp only); unfold nLo; rw [← q17, ← q30]; omega)
set_option maxHeartbeats 4000000 in
set_option maxRecDepth 100000 in
theorem kX1_mostNet (l : Launch) (D : va_G) (cI : ClassId) (ad : Nat → Nat) (f : Nat → Nat → Int32) (lo : Nat → Int32) (hi : Nat → Int32) (T : Int32) (Dv : Int32) (C : Int32) (Tn : Nat) (Dn : Nat) (Cn : Nat) (p1 : Int32) (p2 : Int32) (p3 : Int32) (d : Nat) (t : Nat) (hT : T.toInt = (Tn : Int)) (hDv : Dv.toInt = (Dn : Int)) (hC : C.toInt = (Cn : Int)) (hI : Inv f Tn Dn Cn) (hd : p1.toInt = (d : Int)) (hdn : d < Dn) (ht : p2.toInt = (t : Int)) (htn : t < Tn) (hm : 0 ≤ p3.toInt ∧ p3.toInt ≤ 5) : MI l yX1_mostNet wsX1_mostNet ({ frames := 2, cells := 0, slots := 0, locals := 44 } : Room) D [(cI, .int)] [.ref (ad 0), .int p1, .int p2, .int p3] (WX cI ad f lo hi T Dv C) (fun u : Unit => (WX cI ad f lo hi T Dv C)) (fun (r : Int32) (_ : Unit) => r.toInt = nHi f d t p3.toInt) := by
  refine c_ent (cc := cX1_mostNet) (maxL := 5) (ret := (some .int)) (Qc := fun A => va_Qi (fun (r : Int32) (_ : Unit) => r.toInt = nHi f d t p3.toInt) (cB D [(cI, .int)] A (fun u : Unit => (WX cI ad f lo hi T Dv C))) A) (by decide) rfl (Nat.le_of_ble_eq_true rfl) ?_
  intro p e s m below meth c A ls hx hb hr hlocks hts hown hml hK hP hD hA hl
  have hS : va_S A s.heap s.heap [] := va_S.rf
  have hl : lv_has ls 5 [(0, .ref (ad 0)), (1, .int p1), (2, .int p2), (3, .int p3)] := hl
  have hP : va_P D vwCl (WX cI ad f lo hi T Dv C) s.heap := hP
  have fl22 := hts (.fieldLink RX1 22 "DoorBench" "toldIn" "[I") (by decide +kernel)
  have fl25 := hts (.fieldLink RX1 25 "DoorBench" "toldOut" "[I") (by decide +kernel)
  have inX1 : ∀ w ∈ wsX10, w ∈ wsX1_mostNet := by decide +kernel
  obtain ⟨hI0, hId, hIr, hIs, hIc⟩ := id hI
  have q1 := hId d hdn
  have q2 := hIr (60 * d + t) (by omega)
  have q3 := n_bd (mr := p3.toInt) hI hdn htn hm.1 hm.2
  unfold nLo nHi lsP msP at q3
  refine lv_iload_n hx hb dX1_mostNet_0 rfl (lv_at hl 1 rfl) ?_
  refine lv_iload_n hx hb dX1_mostNet_1 rfl (lv_at hl 2 rfl) ?_
  refine c_cpi (As := [.int p1, .int p2]) (kX1_place l D cI p1 p2 (d) (t) (by omega) (by omega) (by omega)) ⟨hx, hb, hml, hown, hts⟩ (va_cwS 2 hts gX1_mostNet_X1_place rfl rfl rfl (by decide +kernel) ⟨Nat.le_of_ble_eq_true rfl, Nat.le_of_ble_eq_true rfl⟩) hK hP hS hA rfl hl.1 rfl (Nat.le_of_ble_eq_true rfl) dX1_mostNet_2 ⟨Nat.zero_le _, Nat.zero_le _⟩ (fun r2 H locs q2 hP hS => ?_)
  try dsimp only at q2
  skip
  refine lv_istore (lv' := [(4, .int r2), (0, .ref (ad 0)), (1, .int p1), (2, .int p2), (3, .int p3)]) hx hb dX1_mostNet_5 hl (by decide) rfl (fun ls hl => ?_)
  refine lv_aload_n hx hb dX1_mostNet_7 rfl (lv_at hl 1 rfl) ?_
  refine lv_aload_n hx hb dX1_mostNet_8 rfl (lv_at hl 1 rfl) ?_
  refine va_get (D := D) (ci := 1) (v := .ref (ad 5)) (C := RX1) (T := TX1) (N := 16) hx hb hts inX1 hown hK hP 0 rfl rfl 4 (by decide) fl22 (fun _ h9 => h9) rfl dX1_mostNet_9 ?_
  refine lv_iload hx hb dX1_mostNet_12 (lv_at hl 0 rfl) ?_
  refine c_iald hx hb hK hP 5 0 rfl rfl (60 * d + t) (by omega) (by omega) dX1_mostNet_14 (fun v14 e14 => ?_)
  have i14 : v14.toInt = ((f 4) (60 * d + t)).toInt := by rw [e14]
  refine lv_iload_n hx hb dX1_mostNet_15 rfl (lv_at hl 2 rfl) ?_
  refine lv_iload_n hx hb dX1_mostNet_16 rfl (lv_at hl 4 rfl) ?_
  refine c_wvi (As := [.int v14, .int p1, .int p3]) (ci := 1) (q0 := 0) (kX1_mostPassed l D cI ad f lo hi T Dv C Tn Dn Cn v14 p1 p3 (d) hT hDv hC hI (by omega) (by omega) (by omega) (by omega)) ⟨hx, hb, hml, hown, hts⟩ (cwV 3 hts gX1_mostNet_X1_mostPassed rfl rfl rfl (by decide +kernel) ⟨Nat.le_of_ble_eq_true rfl, Nat.le_of_ble_eq_true rfl⟩) hK hP hD hS hA rfl rfl rfl rfl hl.1 rfl (Nat.le_of_ble_eq_true rfl) dX1_mostNet_17 ⟨Nat.zero_le _, Nat.zero_le _⟩ (fun r17 u17 H locs q17 hP hD hS => ?_)
  try dsimp only at q17
  have hP : va_P D vwCl (WX cI ad f lo hi T Dv C) H := hP
  have hD : va_D A (WX cI ad f lo hi T Dv C) := hD
  rw [i14] at q17
  have b17 : 0 ≤ r17.toInt ∧ r17.toInt ≤ 30 := by (rw [q17]; first | unfold lsP | unfold msP); split <;> omega
  refine lv_aload_n hx hb dX1_mostNet_20 rfl (lv_at hl 1 rfl) ?_
  refine lv_aload_n hx hb dX1_mostNet_21 rfl (lv_at hl 1 rfl) ?_
  refine va_get (D := D) (ci := 1) (v := .ref (ad 6)) (C := RX1) (T := TX1) (N := 16) hx hb hts inX1 hown hK hP 0 rfl rfl 5 (by decide) fl25 (fun _ h9 => h9) rfl dX1_mostNet_22 ?_
  refine lv_iload hx hb dX1_mostNet_25 (lv_at hl 0 rfl) ?_
  refine c_iald hx hb hK hP 6 0 rfl rfl (60 * d + t) (by omega) (by omega) dX1_mostNet_27 (fun v27 e27 => ?_)
  have i27 : v27.toInt = ((f 5) (60 * d + t)).toInt := by rw [e27]
  refine lv_iload_n hx hb dX1_mostNet_28 rfl (lv_at hl 2 rfl) ?_
  refine lv_iload_n hx hb dX1_mostNet_29 rfl (lv_at hl 4 rfl) ?_
  refine c_wvi (As := [.int v27, .int p1, .int p3]) (ci := 1) (q0 := 0) (kX1_leastPassed l D cI ad f lo hi T Dv C Tn Dn Cn v27 p1 p3 (d) hT hDv hC hI (by omega) (by omega) (by omega) (by omega)) ⟨hx, hb, hml, hown, hts⟩ (cwV 3 hts gX1_mostNet_X1_leastPassed rfl rfl rfl (by decide +kernel) ⟨Nat.le_of_ble_eq_true rfl, Nat.le_of_ble_eq_true rfl⟩) hK hP hD hS hA rfl rfl rfl rfl hl.1 rfl (Nat.le_of_ble_eq_true rfl) dX1_mostNet_30 ⟨Nat.zero_le _, Nat.zero_le _⟩ (fun r30 u30 H locs q30 hP hD hS => ?_)
  try dsimp only at q30
  have hP : va_P D vwCl (WX cI ad f lo hi T Dv C) H := hP
  have hD : va_D A (WX cI ad f lo hi T Dv C) := hD
  rw [i27] at q30
  have b30 : 0 ≤ r30.toInt ∧ r30.toInt ≤ 30 := by (rw [q30]; first | unfold lsP | unfold msP); split <;> omega
  refine c_isub hx hb dX1_mostNet_33 (by omega) (fun v33 i33 => ?_)
  exact c_ri () hx hb hr hlocks hK hP hD hS dX1_mostNet_34 (by (try dsimp only); unfold nHi; rw [← q17, ← q30]; omega)
