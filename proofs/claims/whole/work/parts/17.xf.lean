set_option maxHeartbeats 4000000 in
set_option maxRecDepth 100000 in
theorem kX1_toldRows (l : Launch) (D : va_G) (cI : ClassId) (ad : Nat → Nat) (f : Nat → Nat → Int32) (lo : Nat → Int32) (hi : Nat → Int32) (T : Int32) (Dv : Int32) (C : Int32) (Tn : Nat) (Dn : Nat) (Cn : Nat) (p1 : Int32) (d : Nat) (hT : T.toInt = (Tn : Int)) (hDv : Dv.toInt = (Dn : Int)) (hC : C.toInt = (Cn : Int)) (hI : Inv f Tn Dn Cn) (hd : p1.toInt = (d : Int)) (hdn : d < Dn) : MI l yX1_toldRows wsX1_toldRows ({ frames := 1, cells := 0, slots := 0, locals := 21 } : Room) D [(cI, .int)] [.ref (ad 0), .int p1] (WX cI ad f lo hi T Dv C) (fun u : Unit => (WX cI ad f lo hi T Dv C)) (fun (r : Int32) (_ : Unit) => r.toInt = cntR f d Tn) := by
  refine c_ent (cc := cX1_toldRows) (maxL := 4) (ret := (some .int)) (Qc := fun A => va_Qi (fun (r : Int32) (_ : Unit) => r.toInt = cntR f d Tn) (cB D [(cI, .int)] A (fun u : Unit => (WX cI ad f lo hi T Dv C))) A) (by decide) rfl (Nat.le_of_ble_eq_true rfl) ?_
  intro p e s m below meth c A ls hx hb hr hlocks hts hown hml hK hP hD hA hl
  have hS : va_S A s.heap s.heap [] := va_S.rf
  have hl : lv_has ls 4 [(0, .ref (ad 0)), (1, .int p1)] := hl
  have hP : va_P D vwCl (WX cI ad f lo hi T Dv C) s.heap := hP
  have fl22 := hts (.fieldLink RX1 22 "DoorBench" "toldIn" "[I") (by decide +kernel)
  have fl141 := hts (.fieldLink RX1 141 "DoorBench" "ticks" "I") (by decide +kernel)
  have inX1 : ∀ w ∈ wsX10, w ∈ wsX1_toldRows := by decide +kernel
  obtain ⟨hI0, hId, hIr, hIs, hIc⟩ := id hI
  refine c_iconst hx hb dX1_toldRows_0 (by decide) (fun v0 i0 => ?_)
  refine lv_istore_n (lv' := [(2, .int v0), (0, .ref (ad 0)), (1, .int p1)]) hx hb dX1_toldRows_1 rfl hl (by decide) rfl (fun ls hl => ?_)
  refine c_iconst hx hb dX1_toldRows_2 (by decide) (fun v2 i2 => ?_)
  refine lv_istore_n (lv' := [(3, .int v2), (2, .int v0), (0, .ref (ad 0)), (1, .int p1)]) hx hb dX1_toldRows_3 rfl hl (by decide) rfl (fun ls hl => ?_)
  have HL4 : ∀ (n : Nat) (t : Nat) (x2 : Int32) (x3 : Int32) (H : Heap) (locs : List Loc) (ls : Array Slot), (x2.toInt = cntR f d t) → (x3.toInt = (t : Int)) → (t ≤ Tn) → (Tn + 1 ≤ t + n) → va_P D vwCl (WX cI ad f lo hi T Dv C) H → va_D A (WX cI ad f lo hi T Dv C) → va_S A s.heap H locs → lv_has ls 4 [(0, .ref (ad 0)), (1, .int p1), (2, .int x2), (3, .int x3)] → W p l e ({ frames := 1, cells := 0, slots := 0, locals := 21 } : Room) s m [.ref (ad 0), .int p1].toArray below meth c H locs 0 0 (MQ below (va_Qi (fun (r : Int32) (_ : Unit) => r.toInt = cntR f d Tn) (cB D [(cI, .int)] A (fun u : Unit => (WX cI ad f lo hi T Dv C))) A) [.ref (ad 0), .int p1].toArray s 0 0 A) (F0 m 4 ls []) := by
    intro n
    induction n with
    | zero => intro t x2 x3 H locs ls hx2 hx3 ht hms; exact absurd hms (by omega)
    | succ n ih4 =>
      intro t x2 x3 H locs ls hx2 hx3 ht hms hP hD hS hl
      have hcb := cntR_bd f d t
      refine lv_iload_n hx hb dX1_toldRows_4 rfl (lv_at hl 3 rfl) ?_
      refine lv_aload_n hx hb dX1_toldRows_5 rfl (lv_at hl 0 rfl) ?_
      refine va_get (D := D) (ci := 1) (v := .int T) (C := RX1) (T := TX1) (N := 16) hx hb hts inX1 hown hK hP 0 rfl rfl 13 (by decide) fl141 (fun _ h9 => h9) rfl dX1_toldRows_6 ?_
      refine c_icmp_ge (tgt := 35) hx hb dX1_toldRows_9 (by decide) (fun c9 => ?_) (fun c9 => ?_)
      · skip
        refine lv_iload_n hx hb dX1_toldRows_35 rfl (lv_at hl 2 rfl) ?_
        exact c_ri () hx hb hr hlocks hK hP hD hS dX1_toldRows_36 (by (try dsimp only); rw [show Tn = t by omega]; exact hx2)
      · skip
        have n1 := hIr (60 * d + t) (by omega)
        refine lv_aload_n hx hb dX1_toldRows_12 rfl (lv_at hl 0 rfl) ?_
        refine va_get (D := D) (ci := 1) (v := .ref (ad 5)) (C := RX1) (T := TX1) (N := 16) hx hb hts inX1 hown hK hP 0 rfl rfl 4 (by decide) fl22 (fun _ h9 => h9) rfl dX1_toldRows_13 ?_
        refine lv_iload_n hx hb dX1_toldRows_16 rfl (lv_at hl 1 rfl) ?_
        refine lv_iload_n hx hb dX1_toldRows_17 rfl (lv_at hl 3 rfl) ?_
        refine c_cpi (As := [.int p1, .int x3]) (kX1_place l D cI p1 x3 (d) (t) (by omega) (by omega) (by omega)) ⟨hx, hb, hml, hown, hts⟩ (va_cwS 2 hts gX1_toldRows_X1_place rfl rfl rfl (by decide +kernel) ⟨Nat.le_of_ble_eq_true rfl, Nat.le_of_ble_eq_true rfl⟩) hK hP hS hA rfl hl.1 rfl (Nat.le_of_ble_eq_true rfl) dX1_toldRows_18 ⟨Nat.zero_le _, Nat.zero_le _⟩ (fun r18 H locs q18 hP hS => ?_)
        try dsimp only at q18
        skip
        refine c_iald hx hb hK hP 5 0 rfl rfl (60 * d + t) (by omega) (by omega) dX1_toldRows_21 (fun v21 e21 => ?_)
        have i21 : v21.toInt = ((f 4) (60 * d + t)).toInt := by rw [e21]
        refine c_iconst hx hb dX1_toldRows_22 (by decide) (fun v22 i22 => ?_)
        refine c_icmp_eq (tgt := 29) hx hb dX1_toldRows_23 (by decide) (fun c23 => ?_) (fun c23 => ?_)
        · skip
          refine c_iinc (k := 3) hx hb (fun v29 => [(3, .int v29), (0, .ref (ad 0)), (1, .int p1), (2, .int x2)]) dX1_toldRows_29 hl rfl (by decide) (by omega) (by decide) (fun _ => rfl) (fun v29 ls i29 hl => ?_)
          have hl : lv_has ls 4 [(3, .int v29), (0, .ref (ad 0)), (1, .int p1), (2, .int x2)] := hl
          refine lv_goto (tgt := 4) hx hb dX1_toldRows_32 (by decide) ?_
          exact ih4 (t + 1) x2 v29 _ _ _ (by show _ = cntR f d t + _; split <;> omega) (by omega) (by omega) (by omega) hP hD hS (lv_sub hl [1, 2, 3, 0] rfl)
        · skip
          refine c_iinc (k := 2) hx hb (fun v26 => [(2, .int v26), (0, .ref (ad 0)), (1, .int p1), (3, .int x3)]) dX1_toldRows_26 hl rfl (by decide) (by omega) (by decide) (fun _ => rfl) (fun v26 ls i26 hl => ?_)
          have hl : lv_has ls 4 [(2, .int v26), (0, .ref (ad 0)), (1, .int p1), (3, .int x3)] := hl
          refine c_iinc (k := 3) hx hb (fun v29_2 => [(3, .int v29_2), (2, .int v26), (0, .ref (ad 0)), (1, .int p1)]) dX1_toldRows_29 hl rfl (by decide) (by omega) (by decide) (fun _ => rfl) (fun v29_2 ls i29_2 hl => ?_)
          have hl : lv_has ls 4 [(3, .int v29_2), (2, .int v26), (0, .ref (ad 0)), (1, .int p1)] := hl
          refine lv_goto (tgt := 4) hx hb dX1_toldRows_32 (by decide) ?_
          exact ih4 (t + 1) v26 v29_2 _ _ _ (by show _ = cntR f d t + _; split <;> omega) (by omega) (by omega) (by omega) hP hD hS (lv_sub hl [2, 3, 1, 0] rfl)
  exact HL4 (Tn + 1) 0 v0 v2 _ _ _ i0 (by omega) (by omega) (by omega) hP hD hS (lv_sub hl [2, 3, 1, 0] rfl)
set_option maxHeartbeats 4000000 in
set_option maxRecDepth 100000 in
theorem kX1_toldSumI (l : Launch) (D : va_G) (cI : ClassId) (ad : Nat → Nat) (f : Nat → Nat → Int32) (lo : Nat → Int32) (hi : Nat → Int32) (T : Int32) (Dv : Int32) (C : Int32) (Tn : Nat) (Dn : Nat) (Cn : Nat) (p2 : Int32) (d : Nat) (hT : T.toInt = (Tn : Int)) (hDv : Dv.toInt = (Dn : Int)) (hC : C.toInt = (Cn : Int)) (hI : Inv f Tn Dn Cn) (hd : p2.toInt = (d : Int)) (hdn : d < Dn) : MI l yX1_toldSum wsX1_toldSum ({ frames := 1, cells := 0, slots := 0, locals := 21 } : Room) D [(cI, .int)] [.ref (ad 0), .ref (ad 5), .int p2] (WX cI ad f lo hi T Dv C) (fun u : Unit => (WX cI ad f lo hi T Dv C)) (fun (r : Int32) (_ : Unit) => r.toInt = sumR f 4 d Tn) := by
  refine c_ent (cc := cX1_toldSum) (maxL := 6) (ret := (some .int)) (Qc := fun A => va_Qi (fun (r : Int32) (_ : Unit) => r.toInt = sumR f 4 d Tn) (cB D [(cI, .int)] A (fun u : Unit => (WX cI ad f lo hi T Dv C))) A) (by decide) rfl (Nat.le_of_ble_eq_true rfl) ?_
  intro p e s m below meth c A ls hx hb hr hlocks hts hown hml hK hP hD hA hl
  have hS : va_S A s.heap s.heap [] := va_S.rf
  have hl : lv_has ls 6 [(0, .ref (ad 0)), (1, .ref (ad 5)), (2, .int p2)] := hl
  have hP : va_P D vwCl (WX cI ad f lo hi T Dv C) s.heap := hP
  have fl141 := hts (.fieldLink RX1 141 "DoorBench" "ticks" "I") (by decide +kernel)
  have inX1 : ∀ w ∈ wsX10, w ∈ wsX1_toldSum := by decide +kernel
  obtain ⟨hI0, hId, hIr, hIs, hIc⟩ := id hI
  refine c_iconst hx hb dX1_toldSum_0 (by decide) (fun v0 i0 => ?_)
  refine lv_istore_n (lv' := [(3, .int v0), (0, .ref (ad 0)), (1, .ref (ad 5)), (2, .int p2)]) hx hb dX1_toldSum_1 rfl hl (by decide) rfl (fun ls hl => ?_)
  refine c_iconst hx hb dX1_toldSum_2 (by decide) (fun v2 i2 => ?_)
  refine lv_istore (lv' := [(4, .int v2), (3, .int v0), (0, .ref (ad 0)), (1, .ref (ad 5)), (2, .int p2)]) hx hb dX1_toldSum_3 hl (by decide) rfl (fun ls hl => ?_)
  have HL5 : ∀ (n : Nat) (t : Nat) (x3 : Int32) (x4 : Int32) (H : Heap) (locs : List Loc) (ls : Array Slot), (x3.toInt = sumR f 4 d t) → (x4.toInt = (t : Int)) → (t ≤ Tn) → (Tn + 1 ≤ t + n) → va_P D vwCl (WX cI ad f lo hi T Dv C) H → va_D A (WX cI ad f lo hi T Dv C) → va_S A s.heap H locs → lv_has ls 6 [(0, .ref (ad 0)), (1, .ref (ad 5)), (2, .int p2), (3, .int x3), (4, .int x4)] → W p l e ({ frames := 1, cells := 0, slots := 0, locals := 21 } : Room) s m [.ref (ad 0), .ref (ad 5), .int p2].toArray below meth c H locs 0 0 (MQ below (va_Qi (fun (r : Int32) (_ : Unit) => r.toInt = sumR f 4 d Tn) (cB D [(cI, .int)] A (fun u : Unit => (WX cI ad f lo hi T Dv C))) A) [.ref (ad 0), .ref (ad 5), .int p2].toArray s 0 0 A) (F0 m 5 ls []) := by
    intro n
    induction n with
    | zero => intro t x3 x4 H locs ls hx3 hx4 ht hms; exact absurd hms (by omega)
    | succ n ih5 =>
      intro t x3 x4 H locs ls hx3 hx4 ht hms hP hD hS hl
      have hcb := sumR_bd hI (k := 4) (by omega) hdn t ht
      refine lv_iload hx hb dX1_toldSum_5 (lv_at hl 4 rfl) ?_
      refine lv_aload_n hx hb dX1_toldSum_7 rfl (lv_at hl 0 rfl) ?_
      refine va_get (D := D) (ci := 1) (v := .int T) (C := RX1) (T := TX1) (N := 16) hx hb hts inX1 hown hK hP 0 rfl rfl 13 (by decide) fl141 (fun _ h9 => h9) rfl dX1_toldSum_8 ?_
      refine c_icmp_ge (tgt := 41) hx hb dX1_toldSum_11 (by decide) (fun c11 => ?_) (fun c11 => ?_)
      · skip
        refine lv_iload_n hx hb dX1_toldSum_41 rfl (lv_at hl 3 rfl) ?_
        exact c_ri () hx hb hr hlocks hK hP hD hS dX1_toldSum_42 (by (try dsimp only); rw [show Tn = t by omega]; exact hx3)
      · skip
        have n1 := hIr (60 * d + t) (by omega)
        refine lv_aload_n hx hb dX1_toldSum_14 rfl (lv_at hl 1 rfl) ?_
        refine lv_iload_n hx hb dX1_toldSum_15 rfl (lv_at hl 2 rfl) ?_
        refine lv_iload hx hb dX1_toldSum_16 (lv_at hl 4 rfl) ?_
        refine c_cpi (As := [.int p2, .int x4]) (kX1_place l D cI p2 x4 (d) (t) (by omega) (by omega) (by omega)) ⟨hx, hb, hml, hown, hts⟩ (va_cwS 2 hts gX1_toldSum_X1_place rfl rfl rfl (by decide +kernel) ⟨Nat.le_of_ble_eq_true rfl, Nat.le_of_ble_eq_true rfl⟩) hK hP hS hA rfl hl.1 rfl (Nat.le_of_ble_eq_true rfl) dX1_toldSum_18 ⟨Nat.zero_le _, Nat.zero_le _⟩ (fun r18 H locs q18 hP hS => ?_)
        try dsimp only at q18
        skip
        refine c_iald hx hb hK hP 5 0 rfl rfl (60 * d + t) (by omega) (by omega) dX1_toldSum_21 (fun v21 e21 => ?_)
        have i21 : v21.toInt = ((f 4) (60 * d + t)).toInt := by rw [e21]
        refine lv_istore (lv' := [(5, .int v21), (0, .ref (ad 0)), (1, .ref (ad 5)), (2, .int p2), (3, .int x3), (4, .int x4)]) hx hb dX1_toldSum_22 hl (by decide) rfl (fun ls hl => ?_)
        refine lv_iload hx hb dX1_toldSum_24 (lv_at hl 0 rfl) ?_
        refine c_iconst hx hb dX1_toldSum_26 (by decide) (fun v26 i26 => ?_)
        refine c_icmp_eq (tgt := 35) hx hb dX1_toldSum_27 (by decide) (fun c27 => ?_) (fun c27 => ?_)
        · skip
          refine c_iinc (k := 5) hx hb (fun v35 => [(4, .int v35), (5, .int v21), (0, .ref (ad 0)), (1, .ref (ad 5)), (2, .int p2), (3, .int x3)]) dX1_toldSum_35 hl rfl (by decide) (by omega) (by decide) (fun _ => rfl) (fun v35 ls i35 hl => ?_)
          have hl : lv_has ls 6 [(4, .int v35), (5, .int v21), (0, .ref (ad 0)), (1, .ref (ad 5)), (2, .int p2), (3, .int x3)] := hl
          refine lv_goto (tgt := 5) hx hb dX1_toldSum_38 (by decide) ?_
          exact ih5 (t + 1) x3 v35 _ _ _ (by show _ = sumR f 4 d t + _; split <;> omega) (by omega) (by omega) (by omega) hP hD hS (lv_sub hl [2, 3, 4, 5, 0] rfl)
        · skip
          refine lv_iload_n hx hb dX1_toldSum_30 rfl (lv_at hl 4 rfl) ?_
          refine lv_iload hx hb dX1_toldSum_31 (lv_at hl 0 rfl) ?_
          refine c_iadd hx hb dX1_toldSum_33 (by omega) (fun v33 i33 => ?_)
          refine lv_istore_n (lv' := [(3, .int v33), (5, .int v21), (0, .ref (ad 0)), (1, .ref (ad 5)), (2, .int p2), (4, .int x4)]) hx hb dX1_toldSum_34 rfl hl (by decide) rfl (fun ls hl => ?_)
          refine c_iinc (k := 5) hx hb (fun v35_2 => [(4, .int v35_2), (3, .int v33), (5, .int v21), (0, .ref (ad 0)), (1, .ref (ad 5)), (2, .int p2)]) dX1_toldSum_35 hl rfl (by decide) (by omega) (by decide) (fun _ => rfl) (fun v35_2 ls i35_2 hl => ?_)
          have hl : lv_has ls 6 [(4, .int v35_2), (3, .int v33), (5, .int v21), (0, .ref (ad 0)), (1, .ref (ad 5)), (2, .int p2)] := hl
          refine lv_goto (tgt := 5) hx hb dX1_toldSum_38 (by decide) ?_
          exact ih5 (t + 1) v33 v35_2 _ _ _ (by show _ = sumR f 4 d t + _; split <;> omega) (by omega) (by omega) (by omega) hP hD hS (lv_sub hl [3, 4, 5, 1, 0] rfl)
  exact HL5 (Tn + 1) 0 v0 v2 _ _ _ i0 (by omega) (by omega) (by omega) hP hD hS (lv_sub hl [2, 3, 4, 1, 0] rfl)
set_option maxHeartbeats 4000000 in
set_option maxRecDepth 100000 in
theorem kX1_toldSumO (l : Launch) (D : va_G) (cI : ClassId) (ad : Nat → Nat) (f : Nat → Nat → Int32) (lo : Nat → Int32) (hi : Nat → Int32) (T : Int32) (Dv : Int32) (C : Int32) (Tn : Nat) (Dn : Nat) (Cn : Nat) (p2 : Int32) (d : Nat) (hT : T.toInt = (Tn : Int)) (hDv : Dv.toInt = (Dn : Int)) (hC : C.toInt = (Cn : Int)) (hI : Inv f Tn Dn Cn) (hd : p2.toInt = (d : Int)) (hdn : d < Dn) : MI l yX1_toldSum wsX1_toldSum ({ frames := 1, cells := 0, slots := 0, locals := 21 } : Room) D [(cI, .int)] [.ref (ad 0), .ref (ad 6), .int p2] (WX cI ad f lo hi T Dv C) (fun u : Unit => (WX cI ad f lo hi T Dv C)) (fun (r : Int32) (_ : Unit) => r.toInt = sumR f 5 d Tn) := by
  refine c_ent (cc := cX1_toldSum) (maxL := 6) (ret := (some .int)) (Qc := fun A => va_Qi (fun (r : Int32) (_ : Unit) => r.toInt = sumR f 5 d Tn) (cB D [(cI, .int)] A (fun u : Unit => (WX cI ad f lo hi T Dv C))) A) (by decide) rfl (Nat.le_of_ble_eq_true rfl) ?_
  intro p e s m below meth c A ls hx hb hr hlocks hts hown hml hK hP hD hA hl
  have hS : va_S A s.heap s.heap [] := va_S.rf
  have hl : lv_has ls 6 [(0, .ref (ad 0)), (1, .ref (ad 6)), (2, .int p2)] := hl
  have hP : va_P D vwCl (WX cI ad f lo hi T Dv C) s.heap := hP
  have fl141 := hts (.fieldLink RX1 141 "DoorBench" "ticks" "I") (by decide +kernel)
  have inX1 : ∀ w ∈ wsX10, w ∈ wsX1_toldSum := by decide +kernel
  obtain ⟨hI0, hId, hIr, hIs, hIc⟩ := id hI
  refine c_iconst hx hb dX1_toldSum_0 (by decide) (fun v0 i0 => ?_)
  refine lv_istore_n (lv' := [(3, .int v0), (0, .ref (ad 0)), (1, .ref (ad 6)), (2, .int p2)]) hx hb dX1_toldSum_1 rfl hl (by decide) rfl (fun ls hl => ?_)
  refine c_iconst hx hb dX1_toldSum_2 (by decide) (fun v2 i2 => ?_)
  refine lv_istore (lv' := [(4, .int v2), (3, .int v0), (0, .ref (ad 0)), (1, .ref (ad 6)), (2, .int p2)]) hx hb dX1_toldSum_3 hl (by decide) rfl (fun ls hl => ?_)
  have HL5 : ∀ (n : Nat) (t : Nat) (x3 : Int32) (x4 : Int32) (H : Heap) (locs : List Loc) (ls : Array Slot), (x3.toInt = sumR f 5 d t) → (x4.toInt = (t : Int)) → (t ≤ Tn) → (Tn + 1 ≤ t + n) → va_P D vwCl (WX cI ad f lo hi T Dv C) H → va_D A (WX cI ad f lo hi T Dv C) → va_S A s.heap H locs → lv_has ls 6 [(0, .ref (ad 0)), (1, .ref (ad 6)), (2, .int p2), (3, .int x3), (4, .int x4)] → W p l e ({ frames := 1, cells := 0, slots := 0, locals := 21 } : Room) s m [.ref (ad 0), .ref (ad 6), .int p2].toArray below meth c H locs 0 0 (MQ below (va_Qi (fun (r : Int32) (_ : Unit) => r.toInt = sumR f 5 d Tn) (cB D [(cI, .int)] A (fun u : Unit => (WX cI ad f lo hi T Dv C))) A) [.ref (ad 0), .ref (ad 6), .int p2].toArray s 0 0 A) (F0 m 5 ls []) := by
    intro n
    induction n with
    | zero => intro t x3 x4 H locs ls hx3 hx4 ht hms; exact absurd hms (by omega)
    | succ n ih5 =>
      intro t x3 x4 H locs ls hx3 hx4 ht hms hP hD hS hl
      have hcb := sumR_bd hI (k := 5) (by omega) hdn t ht
      refine lv_iload hx hb dX1_toldSum_5 (lv_at hl 4 rfl) ?_
      refine lv_aload_n hx hb dX1_toldSum_7 rfl (lv_at hl 0 rfl) ?_
      refine va_get (D := D) (ci := 1) (v := .int T) (C := RX1) (T := TX1) (N := 16) hx hb hts inX1 hown hK hP 0 rfl rfl 13 (by decide) fl141 (fun _ h9 => h9) rfl dX1_toldSum_8 ?_
      refine c_icmp_ge (tgt := 41) hx hb dX1_toldSum_11 (by decide) (fun c11 => ?_) (fun c11 => ?_)
      · skip
        refine lv_iload_n hx hb dX1_toldSum_41 rfl (lv_at hl 3 rfl) ?_
        exact c_ri () hx hb hr hlocks hK hP hD hS dX1_toldSum_42 (by (try dsimp only); rw [show Tn = t by omega]; exact hx3)
      · skip
        have n1 := hIr (60 * d + t) (by omega)
        refine lv_aload_n hx hb dX1_toldSum_14 rfl (lv_at hl 1 rfl) ?_
        refine lv_iload_n hx hb dX1_toldSum_15 rfl (lv_at hl 2 rfl) ?_
        refine lv_iload hx hb dX1_toldSum_16 (lv_at hl 4 rfl) ?_
        refine c_cpi (As := [.int p2, .int x4]) (kX1_place l D cI p2 x4 (d) (t) (by omega) (by omega) (by omega)) ⟨hx, hb, hml, hown, hts⟩ (va_cwS 2 hts gX1_toldSum_X1_place rfl rfl rfl (by decide +kernel) ⟨Nat.le_of_ble_eq_true rfl, Nat.le_of_ble_eq_true rfl⟩) hK hP hS hA rfl hl.1 rfl (Nat.le_of_ble_eq_true rfl) dX1_toldSum_18 ⟨Nat.zero_le _, Nat.zero_le _⟩ (fun r18 H locs q18 hP hS => ?_)
        try dsimp only at q18
        skip
        refine c_iald hx hb hK hP 6 0 rfl rfl (60 * d + t) (by omega) (by omega) dX1_toldSum_21 (fun v21 e21 => ?_)
        have i21 : v21.toInt = ((f 5) (60 * d + t)).toInt := by rw [e21]
        refine lv_istore (lv' := [(5, .int v21), (0, .ref (ad 0)), (1, .ref (ad 6)), (2, .int p2), (3, .int x3), (4, .int x4)]) hx hb dX1_toldSum_22 hl (by decide) rfl (fun ls hl => ?_)
        refine lv_iload hx hb dX1_toldSum_24 (lv_at hl 0 rfl) ?_
        refine c_iconst hx hb dX1_toldSum_26 (by decide) (fun v26 i26 => ?_)
        refine c_icmp_eq (tgt := 35) hx hb dX1_toldSum_27 (by decide) (fun c27 => ?_) (fun c27 => ?_)
        · skip
          refine c_iinc (k := 5) hx hb (fun v35 => [(4, .int v35), (5, .int v21), (0, .ref (ad 0)), (1, .ref (ad 6)), (2, .int p2), (3, .int x3)]) dX1_toldSum_35 hl rfl (by decide) (by omega) (by decide) (fun _ => rfl) (fun v35 ls i35 hl => ?_)
          have hl : lv_has ls 6 [(4, .int v35), (5, .int v21), (0, .ref (ad 0)), (1, .ref (ad 6)), (2, .int p2), (3, .int x3)] := hl
          refine lv_goto (tgt := 5) hx hb dX1_toldSum_38 (by decide) ?_
          exact ih5 (t + 1) x3 v35 _ _ _ (by show _ = sumR f 5 d t + _; split <;> omega) (by omega) (by omega) (by omega) hP hD hS (lv_sub hl [2, 3, 4, 5, 0] rfl)
        · skip
          refine lv_iload_n hx hb dX1_toldSum_30 rfl (lv_at hl 4 rfl) ?_
          refine lv_iload hx hb dX1_toldSum_31 (lv_at hl 0 rfl) ?_
          refine c_iadd hx hb dX1_toldSum_33 (by omega) (fun v33 i33 => ?_)
          refine lv_istore_n (lv' := [(3, .int v33), (5, .int v21), (0, .ref (ad 0)), (1, .ref (ad 6)), (2, .int p2), (4, .int x4)]) hx hb dX1_toldSum_34 rfl hl (by decide) rfl (fun ls hl => ?_)
          refine c_iinc (k := 5) hx hb (fun v35_2 => [(4, .int v35_2), (3, .int v33), (5, .int v21), (0, .ref (ad 0)), (1, .ref (ad 6)), (2, .int p2)]) dX1_toldSum_35 hl rfl (by decide) (by omega) (by decide) (fun _ => rfl) (fun v35_2 ls i35_2 hl => ?_)
          have hl : lv_has ls 6 [(4, .int v35_2), (3, .int v33), (5, .int v21), (0, .ref (ad 0)), (1, .ref (ad 6)), (2, .int p2)] := hl
          refine lv_goto (tgt := 5) hx hb dX1_toldSum_38 (by decide) ?_
          exact ih5 (t + 1) v33 v35_2 _ _ _ (by show _ = sumR f 5 d t + _; split <;> omega) (by omega) (by omega) (by omega) hP hD hS (lv_sub hl [3, 4, 5, 1, 0] rfl)
  exact HL5 (Tn + 1) 0 v0 v2 _ _ _ i0 (by omega) (by omega) (by omega) hP hD hS (lv_sub hl [2, 3, 4, 1, 0] rfl)
set_option maxHeartbeats 4000000 in
set_option maxRecDepth 100000 in
theorem kX1_allToldRows (l : Launch) (D : va_G) (cI : ClassId) (ad : Nat → Nat) (f : Nat → Nat → Int32) (lo : Nat → Int32) (hi : Nat → Int32) (T : Int32) (Dv : Int32) (C : Int32) (Tn : Nat) (Dn : Nat) (Cn : Nat) (hT : T.toInt = (Tn : Int)) (hDv : Dv.toInt = (Dn : Int)) (hC : C.toInt = (Cn : Int)) (hI : Inv f Tn Dn Cn) : MI l yX1_allToldRows wsX1_allToldRows ({ frames := 2, cells := 0, slots := 0, locals := 44 } : Room) D [(cI, .int)] [.ref (ad 0)] (WX cI ad f lo hi T Dv C) (fun u : Unit => (WX cI ad f lo hi T Dv C)) (fun (r : Int32) (_ : Unit) => r.toInt = cntA f Tn Dn) := by
  refine c_ent (cc := cX1_allToldRows) (maxL := 3) (ret := (some .int)) (Qc := fun A => va_Qi (fun (r : Int32) (_ : Unit) => r.toInt = cntA f Tn Dn) (cB D [(cI, .int)] A (fun u : Unit => (WX cI ad f lo hi T Dv C))) A) (by decide) rfl (Nat.le_of_ble_eq_true rfl) ?_
  intro p e s m below meth c A ls hx hb hr hlocks hts hown hml hK hP hD hA hl
  have hS : va_S A s.heap s.heap [] := va_S.rf
  have hl : lv_has ls 3 [(0, .ref (ad 0))] := hl
  have hP : va_P D vwCl (WX cI ad f lo hi T Dv C) s.heap := hP
  have fl61 := hts (.fieldLink RX1 61 "DoorBench" "doors" "I") (by decide +kernel)
  have inX1 : ∀ w ∈ wsX10, w ∈ wsX1_allToldRows := by decide +kernel
  obtain ⟨hI0, hId, hIr, hIs, hIc⟩ := id hI
  refine c_iconst hx hb dX1_allToldRows_0 (by decide) (fun v0 i0 => ?_)
  refine lv_istore_n (lv' := [(1, .int v0), (0, .ref (ad 0))]) hx hb dX1_allToldRows_1 rfl hl (by decide) rfl (fun ls hl => ?_)
  refine c_iconst hx hb dX1_allToldRows_2 (by decide) (fun v2 i2 => ?_)
  refine lv_istore_n (lv' := [(2, .int v2), (1, .int v0), (0, .ref (ad 0))]) hx hb dX1_allToldRows_3 rfl hl (by decide) rfl (fun ls hl => ?_)
  have HL4 : ∀ (n : Nat) (d : Nat) (x1 : Int32) (x2 : Int32) (H : Heap) (locs : List Loc) (ls : Array Slot), (x1.toInt = cntA f Tn d) → (x2.toInt = (d : Int)) → (d ≤ Dn) → (Dn + 1 ≤ d + n) → va_P D vwCl (WX cI ad f lo hi T Dv C) H → va_D A (WX cI ad f lo hi T Dv C) → va_S A s.heap H locs → lv_has ls 3 [(0, .ref (ad 0)), (1, .int x1), (2, .int x2)] → W p l e ({ frames := 2, cells := 0, slots := 0, locals := 44 } : Room) s m [.ref (ad 0)].toArray below meth c H locs 0 0 (MQ below (va_Qi (fun (r : Int32) (_ : Unit) => r.toInt = cntA f Tn Dn) (cB D [(cI, .int)] A (fun u : Unit => (WX cI ad f lo hi T Dv C))) A) [.ref (ad 0)].toArray s 0 0 A) (F0 m 4 ls []) := by
    intro n
    induction n with
    | zero => intro d x1 x2 H locs ls hx1 hx2 hd hms; exact absurd hms (by omega)
    | succ n ih4 =>
      intro d x1 x2 H locs ls hx1 hx2 hd hms hP hD hS hl
      have hcb := cntA_bd f Tn d
      have hcr := cntR_bd f d Tn
      have hml2 : (Tn : Int) * (d : Int) ≤ 60 * (d : Int) := Int.mul_le_mul_of_nonneg_right (by omega) (by omega)
      generalize (Tn : Int) * (d : Int) = zz at hcb hml2
      refine lv_iload_n hx hb dX1_allToldRows_4 rfl (lv_at hl 2 rfl) ?_
      refine lv_aload_n hx hb dX1_allToldRows_5 rfl (lv_at hl 0 rfl) ?_
      refine va_get (D := D) (ci := 1) (v := .int Dv) (C := RX1) (T := TX1) (N := 16) hx hb hts inX1 hown hK hP 0 rfl rfl 14 (by decide) fl61 (fun _ h9 => h9) rfl dX1_allToldRows_6 ?_
      refine c_icmp_ge (tgt := 26) hx hb dX1_allToldRows_9 (by decide) (fun c9 => ?_) (fun c9 => ?_)
      · skip
        refine lv_iload_n hx hb dX1_allToldRows_26 rfl (lv_at hl 1 rfl) ?_
        exact c_ri () hx hb hr hlocks hK hP hD hS dX1_allToldRows_27 (by (try dsimp only); rw [show Dn = d by omega]; exact hx1)
      · skip
        refine lv_iload_n hx hb dX1_allToldRows_12 rfl (lv_at hl 1 rfl) ?_
        refine lv_aload_n hx hb dX1_allToldRows_13 rfl (lv_at hl 0 rfl) ?_
        refine lv_iload_n hx hb dX1_allToldRows_14 rfl (lv_at hl 2 rfl) ?_
        refine c_wvi (As := [.int x2]) (ci := 1) (q0 := 0) (kX1_toldRows l D cI ad f lo hi T Dv C Tn Dn Cn x2 (d) hT hDv hC hI (by omega) (by omega)) ⟨hx, hb, hml, hown, hts⟩ (cwV 1 hts gX1_allToldRows_X1_toldRows rfl rfl rfl (by decide +kernel) ⟨Nat.le_of_ble_eq_true rfl, Nat.le_of_ble_eq_true rfl⟩) hK hP hD hS hA rfl rfl rfl rfl hl.1 rfl (Nat.le_of_ble_eq_true rfl) dX1_allToldRows_15 ⟨Nat.zero_le _, Nat.zero_le _⟩ (fun r15 u15 H locs q15 hP hD hS => ?_)
        try dsimp only at q15
        have hP : va_P D vwCl (WX cI ad f lo hi T Dv C) H := hP
        have hD : va_D A (WX cI ad f lo hi T Dv C) := hD
        refine c_iadd hx hb dX1_allToldRows_18 (by omega) (fun v18 i18 => ?_)
        refine lv_istore_n (lv' := [(1, .int v18), (0, .ref (ad 0)), (2, .int x2)]) hx hb dX1_allToldRows_19 rfl hl (by decide) rfl (fun ls hl => ?_)
        refine c_iinc (k := 2) hx hb (fun v20 => [(2, .int v20), (1, .int v18), (0, .ref (ad 0))]) dX1_allToldRows_20 hl rfl (by decide) (by omega) (by decide) (fun _ => rfl) (fun v20 ls i20 hl => ?_)
        have hl : lv_has ls 3 [(2, .int v20), (1, .int v18), (0, .ref (ad 0))] := hl
        refine lv_goto (tgt := 4) hx hb dX1_allToldRows_23 (by decide) ?_
        exact ih4 (d + 1) v18 v20 _ _ _ (by show _ = cntA f Tn d + cntR f d Tn; omega) (by omega) (by omega) (by omega) hP hD hS (lv_sub hl [2, 1, 0] rfl)
  exact HL4 (Dn + 1) 0 v0 v2 _ _ _ i0 (by omega) (by omega) (by omega) hP hD hS (lv_sub hl [2, 1, 0] rfl)
set_option maxHeartbeats 4000000 in
set_option maxRecDepth 100000 in
theorem kX1_fits (l : Launch) (D : va_G) (cI : ClassId) (ad : Nat → Nat) (f : Nat → Nat → Int32) (lo : Nat → Int32) (hi : Nat → Int32) (T : Int32) (Dv : Int32) (C : Int32) (Tn : Nat) (Dn : Nat) (Cn : Nat) (hT : T.toInt = (Tn : Int)) (hDv : Dv.toInt = (Dn : Int)) (hC : C.toInt = (Cn : Int)) (hI : Inv f Tn Dn Cn) : MI l yX1_fits wsX1_fits ({ frames := 6, cells := 0, slots := 0, locals := 136 } : Room) D [(cI, .int)] [.ref (ad 0)] (WX cI ad f lo hi T Dv C) (fun u : (Nat → Int32) × (Nat → Int32) => (WX cI ad f u.1 u.2 T Dv C)) (fun (r : Int32) (_ : (Nat → Int32) × (Nat → Int32)) => FT f Tn Dn Cn r.toInt) := by
  refine c_ent (cc := cX1_fits) (maxL := 1) (ret := (some .int)) (Qc := fun A => va_Qi (fun (r : Int32) (_ : (Nat → Int32) × (Nat → Int32)) => FT f Tn Dn Cn r.toInt) (cB D [(cI, .int)] A (fun u : (Nat → Int32) × (Nat → Int32) => (WX cI ad f u.1 u.2 T Dv C))) A) (by decide) rfl (Nat.le_of_ble_eq_true rfl) ?_
  intro p e s m below meth c A ls hx hb hr hlocks hts hown hml hK hP hD hA hl
  have hS : va_S A s.heap s.heap [] := va_S.rf
  have hl : lv_has ls 1 [(0, .ref (ad 0))] := hl
  have hP : va_P D vwCl (WX cI ad f lo hi T Dv C) s.heap := hP
  obtain ⟨hI0, hId, hIr, hIs, hIc⟩ := id hI
  refine lv_aload_n hx hb dX1_fits_0 rfl (lv_at hl 0 rfl) ?_
  refine c_iconst hx hb dX1_fits_1 (by decide) (fun v1 i1 => ?_)
  refine c_wvi (As := [.int v1]) (ci := 1) (q0 := 0) (kX1_lookAhead l D cI ad f lo hi T Dv C Tn Dn Cn v1 hT hDv hC hI (by omega)) ⟨hx, hb, hml, hown, hts⟩ (cwV 1 hts gX1_fits_X1_lookAhead rfl rfl rfl (by decide +kernel) ⟨Nat.le_of_ble_eq_true rfl, Nat.le_of_ble_eq_true rfl⟩) hK hP hD hS hA rfl rfl rfl rfl hl.1 rfl (Nat.le_of_ble_eq_true rfl) dX1_fits_2 ⟨Nat.zero_le _, Nat.zero_le _⟩ (fun r2 u2 H locs q2 hP hD hS => ?_)
  try dsimp only at q2
  have hP : va_P D vwCl (WX cI ad f u2.1 u2.2 T Dv C) H := hP
  have hD : va_D A (WX cI ad f u2.1 u2.2 T Dv C) := hD
  rw [i1] at q2
  refine c_iconst hx hb dX1_fits_5 (by decide) (fun v5 i5 => ?_)
  refine c_icmp_ne (tgt := 13) hx hb dX1_fits_6 (by decide) (fun c6 => ?_) (fun c6 => ?_)
  · skip
    refine c_iconst hx hb dX1_fits_13 (by decide) (fun v13 i13 => ?_)
    exact c_ri (u2.1, u2.2) hx hb hr hlocks hK hP hD hS dX1_fits_14 ⟨_, _, q2, by omega⟩
  · skip
    refine c_iconst hx hb dX1_fits_9 (by decide) (fun v9 i9 => ?_)
    refine lv_goto (tgt := 14) hx hb dX1_fits_10 (by decide) ?_
    exact c_ri (u2.1, u2.2) hx hb hr hlocks hK hP hD hS dX1_fits_14 ⟨_, _, q2, by omega⟩
set_option maxHeartbeats 4000000 in
set_option maxRecDepth 100000 in
theorem kX1_quarrel (l : Launch) (D : va_G) (cI : ClassId) (ad : Nat → Nat) (f : Nat → Nat → Int32) (lo : Nat → Int32) (hi : Nat → Int32) (T : Int32) (Dv : Int32) (C : Int32) (Tn : Nat) (Dn : Nat) (Cn : Nat) (hT : T.toInt = (Tn : Int)) (hDv : Dv.toInt = (Dn : Int)) (hC : C.toInt = (Cn : Int)) (hI : Inv f Tn Dn Cn) : MI l yX1_quarrel wsX1_quarrel ({ frames := 6, cells := 0, slots := 0, locals := 136 } : Room) D [(cI, .int)] [.ref (ad 0)] (WX cI ad f lo hi T Dv C) (fun u : (Nat → Int32) × (Nat → Int32) => (WX cI ad f u.1 u.2 T Dv C)) (fun (r : Int32) (_ : (Nat → Int32) × (Nat → Int32)) => QR f Tn Dn Cn r.toInt) := by
  refine c_ent (cc := cX1_quarrel) (maxL := 1) (ret := (some .int)) (Qc := fun A => va_Qi (fun (r : Int32) (_ : (Nat → Int32) × (Nat → Int32)) => QR f Tn Dn Cn r.toInt) (cB D [(cI, .int)] A (fun u : (Nat → Int32) × (Nat → Int32) => (WX cI ad f u.1 u.2 T Dv C))) A) (by decide) rfl (Nat.le_of_ble_eq_true rfl) ?_
  intro p e s m below meth c A ls hx hb hr hlocks hts hown hml hK hP hD hA hl
  have hS : va_S A s.heap s.heap [] := va_S.rf
  have hl : lv_has ls 1 [(0, .ref (ad 0))] := hl
  have hP : va_P D vwCl (WX cI ad f lo hi T Dv C) s.heap := hP
  obtain ⟨hI0, hId, hIr, hIs, hIc⟩ := id hI
  refine lv_aload_n hx hb dX1_quarrel_0 rfl (lv_at hl 0 rfl) ?_
  refine c_iconst hx hb dX1_quarrel_1 (by decide) (fun v1 i1 => ?_)
  refine c_wvi (As := [.int v1]) (ci := 1) (q0 := 0) (kX1_lookAhead l D cI ad f lo hi T Dv C Tn Dn Cn v1 hT hDv hC hI (by omega)) ⟨hx, hb, hml, hown, hts⟩ (cwV 1 hts gX1_quarrel_X1_lookAhead rfl rfl rfl (by decide +kernel) ⟨Nat.le_of_ble_eq_true rfl, Nat.le_of_ble_eq_true rfl⟩) hK hP hD hS hA rfl rfl rfl rfl hl.1 rfl (Nat.le_of_ble_eq_true rfl) dX1_quarrel_2 ⟨Nat.zero_le _, Nat.zero_le _⟩ (fun r2 u2 H locs q2 hP hD hS => ?_)
  try dsimp only at q2
  have hP : va_P D vwCl (WX cI ad f u2.1 u2.2 T Dv C) H := hP
  have hD : va_D A (WX cI ad f u2.1 u2.2 T Dv C) := hD
  rw [i1] at q2
  exact c_ri (u2.1, u2.2) hx hb hr hlocks hK hP hD hS dX1_quarrel_5 ⟨_, q2⟩
set_option maxHeartbeats 4000000 in
set_option maxRecDepth 100000 in
theorem kX1_could (l : Launch) (D : va_G) (cI : ClassId) (ad : Nat → Nat) (f : Nat → Nat → Int32) (lo : Nat → Int32) (hi : Nat → Int32) (T : Int32) (Dv : Int32) (C : Int32) (Tn : Nat) (Dn : Nat) (Cn : Nat) (p1 : Int32) (hT : T.toInt = (Tn : Int)) (hDv : Dv.toInt = (Dn : Int)) (hC : C.toInt = (Cn : Int)) (hI : Inv f Tn Dn Cn) : MI l yX1_could wsX1_could ({ frames := 7, cells := 0, slots := 0, locals := 160 } : Room) D [(cI, .int)] [.ref (ad 0), .int p1] (WX cI ad f lo hi T Dv C) (fun u : (Nat → Int32) × (Nat → Int32) => (WX cI ad f u.1 u.2 T Dv C)) (fun (r : Int32) (_ : (Nat → Int32) × (Nat → Int32)) => FA f Tn Dn Cn p1.toInt r.toInt 5) := by
  refine c_ent (cc := cX1_could) (maxL := 2) (ret := (some .int)) (Qc := fun A => va_Qi (fun (r : Int32) (_ : (Nat → Int32) × (Nat → Int32)) => FA f Tn Dn Cn p1.toInt r.toInt 5) (cB D [(cI, .int)] A (fun u : (Nat → Int32) × (Nat → Int32) => (WX cI ad f u.1 u.2 T Dv C))) A) (by decide) rfl (Nat.le_of_ble_eq_true rfl) ?_
  intro p e s m below meth c A ls hx hb hr hlocks hts hown hml hK hP hD hA hl
  have hS : va_S A s.heap s.heap [] := va_S.rf
  have hl : lv_has ls 2 [(0, .ref (ad 0)), (1, .int p1)] := hl
  have hP : va_P D vwCl (WX cI ad f lo hi T Dv C) s.heap := hP
  obtain ⟨hI0, hId, hIr, hIs, hIc⟩ := id hI
  refine lv_aload_n hx hb dX1_could_0 rfl (lv_at hl 0 rfl) ?_
  refine lv_iload_n hx hb dX1_could_1 rfl (lv_at hl 1 rfl) ?_
  refine c_iconst hx hb dX1_could_2 (by decide) (fun v2 i2 => ?_)
  refine c_wvi (As := [.int p1, .int v2]) (ci := 1) (q0 := 0) (kX1_firstAbove l D cI ad f lo hi T Dv C Tn Dn Cn p1 v2 5 hT hDv hC hI (by omega)) ⟨hx, hb, hml, hown, hts⟩ (cwV 2 hts gX1_could_X1_firstAbove rfl rfl rfl (by decide +kernel) ⟨Nat.le_of_ble_eq_true rfl, Nat.le_of_ble_eq_true rfl⟩) hK hP hD hS hA rfl rfl rfl rfl hl.1 rfl (Nat.le_of_ble_eq_true rfl) dX1_could_3 ⟨Nat.zero_le _, Nat.zero_le _⟩ (fun r3 u3 H locs q3 hP hD hS => ?_)
  try dsimp only at q3
  have hP : va_P D vwCl (WX cI ad f u3.1 u3.2 T Dv C) H := hP
  have hD : va_D A (WX cI ad f u3.1 u3.2 T Dv C) := hD
  exact c_ri (u3.1, u3.2) hx hb hr hlocks hK hP hD hS dX1_could_6 q3
set_option maxHeartbeats 4000000 in
set_option maxRecDepth 100000 in
theorem kX1_surely (l : Launch) (D : va_G) (cI : ClassId) (ad : Nat → Nat) (f : Nat → Nat → Int32) (lo : Nat → Int32) (hi : Nat → Int32) (T : Int32) (Dv : Int32) (C : Int32) (Tn : Nat) (Dn : Nat) (Cn : Nat) (p1 : Int32) (hT : T.toInt = (Tn : Int)) (hDv : Dv.toInt = (Dn : Int)) (hC : C.toInt = (Cn : Int)) (hI : Inv f Tn Dn Cn) : MI l yX1_surely wsX1_surely ({ frames := 7, cells := 0, slots := 0, locals := 160 } : Room) D [(cI, .int)] [.ref (ad 0), .int p1] (WX cI ad f lo hi T Dv C) (fun u : (Nat → Int32) × (Nat → Int32) => (WX cI ad f u.1 u.2 T Dv C)) (fun (r : Int32) (_ : (Nat → Int32) × (Nat → Int32)) => FA f Tn Dn Cn p1.toInt r.toInt 4) := by
  refine c_ent (cc := cX1_surely) (maxL := 2) (ret := (some .int)) (Qc := fun A => va_Qi (fun (r : Int32) (_ : (Nat → Int32) × (Nat → Int32)) => FA f Tn Dn Cn p1.toInt r.toInt 4) (cB D [(cI, .int)] A (fun u : (Nat → Int32) × (Nat → Int32) => (WX cI ad f u.1 u.2 T Dv C))) A) (by decide) rfl (Nat.le_of_ble_eq_true rfl) ?_
  intro p e s m below meth c A ls hx hb hr hlocks hts hown hml hK hP hD hA hl
  have hS : va_S A s.heap s.heap [] := va_S.rf
  have hl : lv_has ls 2 [(0, .ref (ad 0)), (1, .int p1)] := hl
  have hP : va_P D vwCl (WX cI ad f lo hi T Dv C) s.heap := hP
  obtain ⟨hI0, hId, hIr, hIs, hIc⟩ := id hI
  refine lv_aload_n hx hb dX1_surely_0 rfl (lv_at hl 0 rfl) ?_
  refine lv_iload_n hx hb dX1_surely_1 rfl (lv_at hl 1 rfl) ?_
  refine c_iconst hx hb dX1_surely_2 (by decide) (fun v2 i2 => ?_)
  refine c_wvi (As := [.int p1, .int v2]) (ci := 1) (q0 := 0) (kX1_firstAbove l D cI ad f lo hi T Dv C Tn Dn Cn p1 v2 4 hT hDv hC hI (by omega)) ⟨hx, hb, hml, hown, hts⟩ (cwV 2 hts gX1_surely_X1_firstAbove rfl rfl rfl (by decide +kernel) ⟨Nat.le_of_ble_eq_true rfl, Nat.le_of_ble_eq_true rfl⟩) hK hP hD hS hA rfl rfl rfl rfl hl.1 rfl (Nat.le_of_ble_eq_true rfl) dX1_surely_3 ⟨Nat.zero_le _, Nat.zero_le _⟩ (fun r3 u3 H locs q3 hP hD hS => ?_)
  try dsimp only at q3
  have hP : va_P D vwCl (WX cI ad f u3.1 u3.2 T Dv C) H := hP
  have hD : va_D A (WX cI ad f u3.1 u3.2 T Dv C) := hD
  exact c_ri (u3.1, u3.2) hx hb hr hlocks hK hP hD hS dX1_surely_6 q3
set_option maxHeartbeats 4000000 in
set_option maxRecDepth 100000 in
theorem kX1_worse (l : Launch) (D : va_G) (cI : ClassId) (ad : Nat → Nat) (f : Nat → Nat → Int32) (lo : Nat → Int32) (hi : Nat → Int32) (T : Int32) (Dv : Int32) (C : Int32) (Tn : Nat) (Dn : Nat) (Cn : Nat) (hT : T.toInt = (Tn : Int)) (hDv : Dv.toInt = (Dn : Int)) (hC : C.toInt = (Cn : Int)) (hI : Inv f Tn Dn Cn) : MI l yX1_worse wsX1_worse ({ frames := 6, cells := 0, slots := 0, locals := 136 } : Room) D [(cI, .int)] [.ref (ad 0)] (WX cI ad f lo hi T Dv C) (fun u : (Nat → Int32) × (Nat → Int32) => (WX cI ad f u.1 u.2 T Dv C)) (fun (r : Int32) (_ : (Nat → Int32) × (Nat → Int32)) => WR f Tn Dn Cn r.toInt) := by
  refine c_ent (cc := cX1_worse) (maxL := 2) (ret := (some .int)) (Qc := fun A => va_Qi (fun (r : Int32) (_ : (Nat → Int32) × (Nat → Int32)) => WR f Tn Dn Cn r.toInt) (cB D [(cI, .int)] A (fun u : (Nat → Int32) × (Nat → Int32) => (WX cI ad f u.1 u.2 T Dv C))) A) (by decide) rfl (Nat.le_of_ble_eq_true rfl) ?_
  intro p e s m below meth c A ls hx hb hr hlocks hts hown hml hK hP hD hA hl
  have hS : va_S A s.heap s.heap [] := va_S.rf
  have hl : lv_has ls 2 [(0, .ref (ad 0))] := hl
  have hP : va_P D vwCl (WX cI ad f lo hi T Dv C) s.heap := hP
  obtain ⟨hI0, hId, hIr, hIs, hIc⟩ := id hI
  refine c_iconst hx hb dX1_worse_0 (by decide) (fun v0 i0 => ?_)
  refine lv_istore_n (lv' := [(1, .int v0), (0, .ref (ad 0))]) hx hb dX1_worse_1 rfl hl (by decide) rfl (fun ls hl => ?_)
  have HL2 : ∀ (n : Nat) (k : Nat) (x1 : Int32) (lo1 : Nat → Int32) (hi1 : Nat → Int32) (H : Heap) (locs : List Loc) (ls : Array Slot), (x1.toInt = (k : Int)) → (k ≤ 6) → (7 ≤ k + n) → (∀ i : Nat, i < k → ∃ v R, LA f Tn Dn Cn (i : Int) v R ∧ v ≠ -1) → va_P D vwCl (WX cI ad f lo1 hi1 T Dv C) H → va_D A (WX cI ad f lo1 hi1 T Dv C) → va_S A s.heap H locs → lv_has ls 2 [(0, .ref (ad 0)), (1, .int x1)] → W p l e ({ frames := 6, cells := 0, slots := 0, locals := 136 } : Room) s m [.ref (ad 0)].toArray below meth c H locs 0 0 (MQ below (va_Qi (fun (r : Int32) (_ : (Nat → Int32) × (Nat → Int32)) => WR f Tn Dn Cn r.toInt) (cB D [(cI, .int)] A (fun u : (Nat → Int32) × (Nat → Int32) => (WX cI ad f u.1 u.2 T Dv C))) A) [.ref (ad 0)].toArray s 0 0 A) (F0 m 2 ls []) := by
    intro n
    induction n with
    | zero => intro k x1 lo1 hi1 H locs ls hx1 hk hms hno; exact absurd hms (by omega)
    | succ n ih2 =>
      intro k x1 lo1 hi1 H locs ls hx1 hk hms hno hP hD hS hl
      refine lv_iload_n hx hb dX1_worse_2 rfl (lv_at hl 1 rfl) ?_
      refine c_iconst hx hb dX1_worse_3 (by decide) (fun v3 i3 => ?_)
      refine c_icmp_gt (tgt := 24) hx hb dX1_worse_4 (by decide) (fun c4 => ?_) (fun c4 => ?_)
      · skip
        refine c_iconst hx hb dX1_worse_24 (by decide) (fun v24 i24 => ?_)
        exact c_ri (lo1, hi1) hx hb hr hlocks hK hP hD hS dX1_worse_25 (Or.inr ⟨by omega, fun i hi => hno i (by omega)⟩)
      · skip
        refine lv_aload_n hx hb dX1_worse_7 rfl (lv_at hl 0 rfl) ?_
        refine lv_iload_n hx hb dX1_worse_8 rfl (lv_at hl 1 rfl) ?_
        refine c_wvi (As := [.int x1]) (ci := 1) (q0 := 0) (kX1_lookAhead l D cI ad f lo1 hi1 T Dv C Tn Dn Cn x1 hT hDv hC hI (by omega)) ⟨hx, hb, hml, hown, hts⟩ (cwV 1 hts gX1_worse_X1_lookAhead rfl rfl rfl (by decide +kernel) ⟨Nat.le_of_ble_eq_true rfl, Nat.le_of_ble_eq_true rfl⟩) hK hP hD hS hA rfl rfl rfl rfl hl.1 rfl (Nat.le_of_ble_eq_true rfl) dX1_worse_9 ⟨Nat.zero_le _, Nat.zero_le _⟩ (fun r9 u9 H locs q9 hP hD hS => ?_)
        try dsimp only at q9
        have hP : va_P D vwCl (WX cI ad f u9.1 u9.2 T Dv C) H := hP
        have hD : va_D A (WX cI ad f u9.1 u9.2 T Dv C) := hD
        rw [hx1] at q9
        refine c_iconst hx hb dX1_worse_12 (by decide) (fun v12 i12 => ?_)
        refine c_icmp_ne (tgt := 18) hx hb dX1_worse_13 (by decide) (fun c13 => ?_) (fun c13 => ?_)
        · skip
          refine c_iinc (k := 1) hx hb (fun v18 => [(1, .int v18), (0, .ref (ad 0))]) dX1_worse_18 hl rfl (by decide) (by omega) (by decide) (fun _ => rfl) (fun v18 ls i18 hl => ?_)
          have hl : lv_has ls 2 [(1, .int v18), (0, .ref (ad 0))] := hl
          refine lv_goto (tgt := 2) hx hb dX1_worse_21 (by decide) ?_
          exact ih2 (k + 1) v18 u9.1 u9.2 _ _ _ (by omega) (by omega) (by omega) (fun i hi => by
                    rcases (show i < k ∨ i = k by omega) with h | rfl
                    · exact hno i h
                    · exact ⟨_, _, q9, by omega⟩) hP hD hS (lv_sub hl [1, 0] rfl)
        · skip
          refine lv_iload_n hx hb dX1_worse_16 rfl (lv_at hl 1 rfl) ?_
          exact c_ri (u9.1, u9.2) hx hb hr hlocks hK hP hD hS dX1_worse_17 (Or.inl ⟨k, by omega, hx1, ⟨_, by rw [show (-1 : Int) = r9.toInt by omega]; exact q9⟩, hno⟩)
  exact HL2 7 0 v0 lo hi _ _ _ (by omega) (by omega) (by omega) (fun i h => absurd h (by omega)) hP hD hS (lv_sub hl [1, 0] rfl)
set_option maxHeartbeats 4000000 in
set_option maxRecDepth 100000 in
theorem kX1_count (l : Launch) (D : va_G) (cI : ClassId) (ad : Nat → Nat) (f : Nat → Nat → Int32) (lo : Nat → Int32) (hi : Nat → Int32) (T : Int32) (Dv : Int32) (C : Int32) (Tn : Nat) (Dn : Nat) (Cn : Nat) (p1 : Int32) (hT : T.toInt = (Tn : Int)) (hDv : Dv.toInt = (Dn : Int)) (hC : C.toInt = (Cn : Int)) (hI : Inv f Tn Dn Cn) : MI l yX1_count wsX1_count ({ frames := 3, cells := 0, slots := 0, locals := 66 } : Room) D [(cI, .int)] [.ref (ad 0), .int p1] (WX cI ad f lo hi T Dv C) (fun u : Unit => (WX cI ad f lo hi T Dv C)) (fun (r : Int32) (_ : Unit) => CN f Tn Dn Cn p1.toInt r.toInt) := by
  refine c_ent (cc := cX1_count) (maxL := 2) (ret := (some .int)) (Qc := fun A => va_Qi (fun (r : Int32) (_ : Unit) => CN f Tn Dn Cn p1.toInt r.toInt) (cB D [(cI, .int)] A (fun u : Unit => (WX cI ad f lo hi T Dv C))) A) (by decide) rfl (Nat.le_of_ble_eq_true rfl) ?_
  intro p e s m below meth c A ls hx hb hr hlocks hts hown hml hK hP hD hA hl
  have hS : va_S A s.heap s.heap [] := va_S.rf
  have hl : lv_has ls 2 [(0, .ref (ad 0)), (1, .int p1)] := hl
  have hP : va_P D vwCl (WX cI ad f lo hi T Dv C) s.heap := hP
  have fl61 := hts (.fieldLink RX1 61 "DoorBench" "doors" "I") (by decide +kernel)
  have fl86 := hts (.fieldLink RX1 86 "DoorBench" "checks" "I") (by decide +kernel)
  have fl141 := hts (.fieldLink RX1 141 "DoorBench" "ticks" "I") (by decide +kernel)
  have inX1 : ∀ w ∈ wsX10, w ∈ wsX1_count := by decide +kernel
  obtain ⟨hI0, hId, hIr, hIs, hIc⟩ := id hI
  refine lv_iload_n hx hb dX1_count_0 rfl (lv_at hl 1 rfl) ?_
  by_cases o1 : p1.toInt < 0 ∨ 3 < p1.toInt
  · skip
    refine lv_tableOut (tgt := 52) hx hb dX1_count_1 o1 (by decide) ?_
    refine c_iconst hx hb dX1_count_52 (by decide) (fun v52 i52 => ?_)
    exact c_ri () hx hb hr hlocks hK hP hD hS dX1_count_53 (by (try dsimp only); unfold CN; omega)
  · skip
    rcases (show p1.toInt = 0 ∨ p1.toInt = 1 ∨ p1.toInt = 2 ∨ p1.toInt = 3 by omega) with w1 | w1 | w1 | w1
    · skip
      refine lv_tableIn (off := 31) (tgt := 32) hx hb dX1_count_1 (by omega) (by omega) (by rw [w1]; rfl) (by decide) ?_
      refine lv_aload_n hx hb dX1_count_32 rfl (lv_at hl 0 rfl) ?_
      refine va_get (D := D) (ci := 1) (v := .int T) (C := RX1) (T := TX1) (N := 16) hx hb hts inX1 hown hK hP 0 rfl rfl 13 (by decide) fl141 (fun _ h9 => h9) rfl dX1_count_33 ?_
      exact c_ri () hx hb hr hlocks hK hP hD hS dX1_count_36 (by (try dsimp only); unfold CN; omega)
    · skip
      refine lv_tableIn (off := 36) (tgt := 37) hx hb dX1_count_1 (by omega) (by omega) (by rw [w1]; rfl) (by decide) ?_
      refine lv_aload_n hx hb dX1_count_37 rfl (lv_at hl 0 rfl) ?_
      refine va_get (D := D) (ci := 1) (v := .int Dv) (C := RX1) (T := TX1) (N := 16) hx hb hts inX1 hown hK hP 0 rfl rfl 14 (by decide) fl61 (fun _ h9 => h9) rfl dX1_count_38 ?_
      exact c_ri () hx hb hr hlocks hK hP hD hS dX1_count_41 (by (try dsimp only); unfold CN; omega)
    · skip
      refine lv_tableIn (off := 41) (tgt := 42) hx hb dX1_count_1 (by omega) (by omega) (by rw [w1]; rfl) (by decide) ?_
      refine lv_aload_n hx hb dX1_count_42 rfl (lv_at hl 0 rfl) ?_
      refine va_get (D := D) (ci := 1) (v := .int C) (C := RX1) (T := TX1) (N := 16) hx hb hts inX1 hown hK hP 0 rfl rfl 15 (by decide) fl86 (fun _ h9 => h9) rfl dX1_count_43 ?_
      exact c_ri () hx hb hr hlocks hK hP hD hS dX1_count_46 (by (try dsimp only); unfold CN; omega)
    · skip
      refine lv_tableIn (off := 46) (tgt := 47) hx hb dX1_count_1 (by omega) (by omega) (by rw [w1]; rfl) (by decide) ?_
      refine lv_aload_n hx hb dX1_count_47 rfl (lv_at hl 0 rfl) ?_
      refine c_wvi (As := []) (ci := 1) (q0 := 0) (kX1_allToldRows l D cI ad f lo hi T Dv C Tn Dn Cn hT hDv hC hI) ⟨hx, hb, hml, hown, hts⟩ (cwV 0 hts gX1_count_X1_allToldRows rfl rfl rfl (by decide +kernel) ⟨Nat.le_of_ble_eq_true rfl, Nat.le_of_ble_eq_true rfl⟩) hK hP hD hS hA rfl rfl rfl rfl hl.1 rfl (Nat.le_of_ble_eq_true rfl) dX1_count_48 ⟨Nat.zero_le _, Nat.zero_le _⟩ (fun r48 u48 H locs q48 hP hD hS => ?_)
      try dsimp only at q48
      have hP : va_P D vwCl (WX cI ad f lo hi T Dv C) H := hP
      have hD : va_D A (WX cI ad f lo hi T Dv C) := hD
      exact c_ri () hx hb hr hlocks hK hP hD hS dX1_count_51 (by (try dsimp only); unfold CN; omega)
