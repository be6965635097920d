set_option maxHeartbeats 4000000 in
set_option maxRecDepth 100000 in
theorem kX1_inside (l : Launch) (hst : l.stackTraces = false) (D : va_G) (cI : ClassId) (ad : Nat → Nat) (f : Nat → Nat → Int32) (lo : Nat → Int32) (hi : Nat → Int32) (T : Int32) (Dv : Int32) (C : Int32) (Tn : Nat) (Dn : Nat) (Cn : Nat) (p1 : Int32) (p2 : Int32) (p3 : Int32) (sa : Nat → Nat) (hT : T.toInt = (Tn : Int)) (hDv : Dv.toInt = (Dn : Int)) (hC : C.toInt = (Cn : Int)) (hI : Inv f Tn Dn Cn) : MX l yX1_inside vsX1_inside ({ frames := 6, cells := 1, slots := 6, locals := 136 } : Room) D [(cI, .int)] [.ref (ad 0), .int p1, .int p2, .int p3] (WX cI ad f lo hi T Dv C) sa (fun u : (Nat → Int32) × (Nat → Int32) => (WX cI ad f u.1 u.2 T Dv C)) (fun (r : Int32) (_ : (Nat → Int32) × (Nat → Int32)) => IN f Tn Dn Cn p1.toInt p2.toInt p3.toInt 0 r.toInt) (fun (E : String) (_ : (Nat → Int32) × (Nat → Int32)) => (E = eI ∧ ¬ ((0 ≤ p1.toInt ∧ p1.toInt ≤ (Tn : Int)) ∧ (0 ≤ p2.toInt ∧ p2.toInt ≤ 2))) ∨ (E = eN ∧ ((0 ≤ p1.toInt ∧ p1.toInt ≤ (Tn : Int)) ∧ (0 ≤ p2.toInt ∧ p2.toInt ≤ 2)) ∧ noT f Tn Dn Cn 0)) := by
  refine c_entX (cc := cX1_inside) (maxL := 4) (ret := (some .int)) (by decide) rfl (Nat.le_of_ble_eq_true rfl) ?_
  intro p e s m below meth c A ls hx hb hr hlocks hts hown hml hK hP hD hA hl hnt hth
  obtain ⟨hU, hN, ⟨hs0, hs1, hs2, hs3, hs4⟩, hc1, hc2, hd1, hd2, hd3⟩ := id hth
  have cl93 := hts (.classLink RX1 93 eI) (by decide +kernel)
  have ci93 := hts (.initialized eI) (by decide +kernel)
  have cl100 := hts (.classLink RX1 100 eN) (by decide +kernel)
  have ci100 := hts (.initialized eN) (by decide +kernel)
  have at97 : ∀ w ∈ (vx_atS RX1 97 eI eNs).filter goodWord, w.before [.ref (ad 0), .int p1, .int p2, .int p3].toArray s = true := fun w h => hts w (List.mem_cons_of_mem _ (List.mem_append_left _ (List.mem_append_right _ h)))
  have at104 : ∀ w ∈ nW.filter goodWord, w.before [.ref (ad 0), .int p1, .int p2, .int p3].toArray s = true := fun w h => hts w (List.mem_cons_of_mem _ (List.mem_append_right _ h))
  have hS : va_S A s.heap s.heap [] := va_S.rf
  have hl : lv_has ls 4 [(0, .ref (ad 0)), (1, .int p1), (2, .int p2), (3, .int p3)] := hl
  have hP : va_P D vwCl (WX cI ad f lo hi T Dv C) s.heap := hP
  have fl49 := hts (.fieldLink RX1 49 "DoorBench" "spans" "LDoorBench$Spans;") (by decide +kernel)
  have inX1 : ∀ w ∈ wsX10, w ∈ vsX1_inside := by decide +kernel
  obtain ⟨hI0, hId, hIr, hIs, hIc⟩ := id hI
  refine lv_aload_n hx hb dX1_inside_0 rfl (lv_at hl 0 rfl) ?_
  refine lv_iload_n hx hb dX1_inside_1 rfl (lv_at hl 1 rfl) ?_
  refine c_wvi (As := [.int p1]) (ci := 1) (q0 := 0) (kX1_isTime l D cI ad f lo hi T Dv C Tn Dn Cn p1 hT hDv hC hI) ⟨hx, hb, hml, hown, hts⟩ (cwV 1 hts vX1_inside_X1_isTime rfl rfl rfl (by decide +kernel) ⟨Nat.le_of_ble_eq_true rfl, Nat.le_of_ble_eq_true rfl⟩) hK hP hD hS hA rfl rfl rfl rfl hl.1 rfl (Nat.le_of_ble_eq_true rfl) dX1_inside_2 ⟨Nat.zero_le _, Nat.zero_le _⟩ (fun r2 u2 H locs q2 hP hD hS => ?_)
  try dsimp only at q2
  have hP : va_P D vwCl (WX cI ad f lo hi T Dv C) H := hP
  have hD : va_D A (WX cI ad f lo hi T Dv C) := hD
  refine c_if_eq (tgt := 15) hx hb dX1_inside_5 (by decide) (fun c5 => ?_) (fun c5 => ?_)
  · skip
    exact c_thr (lo, hi) hx hb hst hown (by decide) cl93 ci93 hs0 at97 no97 hc1 hd1 hd2 hd3 ot97 hU hN hK hP hD hS (hl.1.trans hml.symm) dX1_inside_15 dX1_inside_18 dX1_inside_19 dX1_inside_21 dX1_inside_24 hnt (Nat.le_of_ble_eq_true rfl) (Nat.le_of_ble_eq_true rfl) (Nat.le_of_ble_eq_true rfl) (Nat.le_of_ble_eq_true rfl) hlocks (Or.inl ⟨rfl, by omega⟩)
  · skip
    refine lv_iload_n hx hb dX1_inside_8 rfl (lv_at hl 2 rfl) ?_
    refine c_cpi (As := [.int p2]) (kX1_isWhat l D cI p2) ⟨hx, hb, hml, hown, hts⟩ (va_cwS 1 hts vX1_inside_X1_isWhat rfl rfl rfl (by decide +kernel) ⟨Nat.le_of_ble_eq_true rfl, Nat.le_of_ble_eq_true rfl⟩) hK hP hS hA rfl hl.1 rfl (Nat.le_of_ble_eq_true rfl) dX1_inside_9 ⟨Nat.zero_le _, Nat.zero_le _⟩ (fun r9 H locs q9 hP hS => ?_)
    try dsimp only at q9
    refine c_if_ne (tgt := 25) hx hb dX1_inside_12 (by decide) (fun c12 => ?_) (fun c12 => ?_)
    · skip
      refine lv_aload_n hx hb dX1_inside_25 rfl (lv_at hl 0 rfl) ?_
      refine c_iconst hx hb dX1_inside_26 (by decide) (fun v26 i26 => ?_)
      refine c_wvi (As := [.int v26]) (ci := 1) (q0 := 0) (kX1_lookAhead l D cI ad f lo hi T Dv C Tn Dn Cn v26 hT hDv hC hI (by omega)) ⟨hx, hb, hml, hown, hts⟩ (cwV 1 hts vX1_inside_X1_lookAhead rfl rfl rfl (by decide +kernel) ⟨Nat.le_of_ble_eq_true rfl, Nat.le_of_ble_eq_true rfl⟩) hK hP hD hS hA rfl rfl rfl rfl hl.1 rfl (Nat.le_of_ble_eq_true rfl) dX1_inside_27 ⟨Nat.zero_le _, Nat.zero_le _⟩ (fun r27 u27 H locs q27 hP hD hS => ?_)
      try dsimp only at q27
      have hP : va_P D vwCl (WX cI ad f u27.1 u27.2 T Dv C) H := hP
      have hD : va_D A (WX cI ad f u27.1 u27.2 T Dv C) := hD
      rw [i26] at q27
      refine c_iconst hx hb dX1_inside_30 (by decide) (fun v30 i30 => ?_)
      refine c_icmp_eq (tgt := 44) hx hb dX1_inside_31 (by decide) (fun c31 => ?_) (fun c31 => ?_)
      · skip
        have hrw : ∀ j, j ≤ Tn → Tt (rwX u27.1 u27.2 j) (Fw f Dn Cn 0 j) ∧ bh (rwX u27.1 u27.2 j) 50000 := LA_rows q27 (by omega)
        refine lv_aload_n hx hb dX1_inside_44 rfl (lv_at hl 0 rfl) ?_
        refine lv_iload_n hx hb dX1_inside_45 rfl (lv_at hl 1 rfl) ?_
        refine c_wvv (As := [.int p1]) (ci := 1) (q0 := 0) (kX1_lookBackTo l D cI ad f u27.1 u27.2 T Dv C Tn Dn Cn p1 (p1.toInt.toNat) hT hDv hC hI (by omega) (by omega) hrw) ⟨hx, hb, hml, hown, hts⟩ (cwV 1 hts vX1_inside_X1_lookBackTo rfl rfl rfl (by decide +kernel) ⟨Nat.le_of_ble_eq_true rfl, Nat.le_of_ble_eq_true rfl⟩) hK hP hD hS hA rfl rfl rfl rfl hl.1 rfl (Nat.le_of_ble_eq_true rfl) dX1_inside_46 ⟨Nat.zero_le _, Nat.zero_le _⟩ (fun u46 H locs q46 hP hD hS => ?_)
        try dsimp only at q46
        have hP : va_P D vwCl (WX cI ad f u46.1 u46.2 T Dv C) H := hP
        have hD : va_D A (WX cI ad f u46.1 u46.2 T Dv C) := hD
        refine lv_iload_n hx hb dX1_inside_49 rfl (lv_at hl 3 rfl) ?_
        refine c_if_eq (tgt := 65) hx hb dX1_inside_50 (by decide) (fun c50 => ?_) (fun c50 => ?_)
        · skip
          refine lv_aload_n hx hb dX1_inside_65 rfl (lv_at hl 0 rfl) ?_
          refine va_get (D := D) (ci := 1) (v := .ref (ad 13)) (C := RX1) (T := TX1) (N := 16) hx hb hts inX1 hown hK hP 0 rfl rfl 12 (by decide) fl49 (fun _ h9 => h9) rfl dX1_inside_66 ?_
          refine lv_iload_n hx hb dX1_inside_69 rfl (lv_at hl 1 rfl) ?_
          refine lv_iload_n hx hb dX1_inside_70 rfl (lv_at hl 2 rfl) ?_
          refine c_cvi (As := [.int p1, .int p2]) (ci := 0) (q0 := 0) (wr := [((ad 0), .inr (1, [.ref (ad 1), .ref (ad 2), .ref (ad 3), .ref (ad 4), .ref (ad 5), .ref (ad 6), .ref (ad 7), .ref (ad 8), .ref (ad 9), .ref (ad 10), .ref (ad 11), .ref (ad 12), .ref (ad 13), .int T, .int Dv, .int C])), ((ad 1), .inl (cI, 6, .inl (f 0))), ((ad 2), .inl (cI, 6, .inl (f 1))), ((ad 3), .inl (cI, 6, .inl (f 2))), ((ad 4), .inl (cI, 6, .inl (f 3))), ((ad 5), .inl (cI, 360, .inl (f 4))), ((ad 6), .inl (cI, 360, .inl (f 5))), ((ad 7), .inl (cI, 2, .inl (f 6))), ((ad 8), .inl (cI, 2, .inl (f 7))), ((ad 9), .inl (cI, 20, .inl (f 8))), ((ad 10), .inl (cI, 20, .inl (f 9))), ((ad 11), .inl (cI, 20, .inl (f 10))), ((ad 12), .inl (cI, 20, .inl (f 11)))]) (wF := (fun uZ => (WX cI ad f u46.1 u46.2 T Dv C))) (kX0_low l D cI ad u46.1 u46.2 p1 p2 (p1.toInt.toNat) (p2.toInt.toNat) (by omega) (by omega) (by omega) (by omega)) ⟨hx, hb, hml, hown, hts⟩ (cwV 2 hts vX1_inside_X0_low rfl rfl rfl (by decide +kernel) ⟨Nat.le_of_ble_eq_true rfl, Nat.le_of_ble_eq_true rfl⟩) hK hP hD hS hA [13, 14, 15] [0, 1, 2, 3, 4, 5, 6, 7, 8, 9, 10, 11, 12] [0, 1, 2, 3, 4, 5, 6, 7, 8, 9, 10, 11, 12, 13, 14, 15] rfl (by decide) rfl (by decide) (by decide) (by decide) (fun _ => rfl) rfl rfl rfl rfl hl.1 rfl (Nat.le_of_ble_eq_true rfl) dX1_inside_71 ⟨Nat.zero_le _, Nat.zero_le _⟩ (fun r71 u71 H locs q71 hP hD hS => ?_)
          try dsimp only at q71
          have hP : va_P D vwCl (WX cI ad f u46.1 u46.2 T Dv C) H := hP
          have hD : va_D A (WX cI ad f u46.1 u46.2 T Dv C) := hD
          exact c_rx (u46.1, u46.2) hx hb hr hlocks hK hP hD hS dX1_inside_74 (by
                refine Or.inr (Or.inr ⟨by omega, rows_T hrw, rfl, rwX u46.1 u46.2 p1.toInt.toNat, (q46.1 p1.toInt.toNat (by omega) (by omega)).1, ?_⟩)
                have hw : p2.toInt.toNat = 0 ∨ p2.toInt.toNat = 1 ∨ p2.toInt.toNat = 2 := by omega
                rw [if_pos (by omega), q71]
                rcases hw with h | h | h <;> rw [h] <;> rfl)
        · skip
          refine lv_aload_n hx hb dX1_inside_53 rfl (lv_at hl 0 rfl) ?_
          refine va_get (D := D) (ci := 1) (v := .ref (ad 13)) (C := RX1) (T := TX1) (N := 16) hx hb hts inX1 hown hK hP 0 rfl rfl 12 (by decide) fl49 (fun _ h9 => h9) rfl dX1_inside_54 ?_
          refine lv_iload_n hx hb dX1_inside_57 rfl (lv_at hl 1 rfl) ?_
          refine lv_iload_n hx hb dX1_inside_58 rfl (lv_at hl 2 rfl) ?_
          refine c_cvi (As := [.int p1, .int p2]) (ci := 0) (q0 := 0) (wr := [((ad 0), .inr (1, [.ref (ad 1), .ref (ad 2), .ref (ad 3), .ref (ad 4), .ref (ad 5), .ref (ad 6), .ref (ad 7), .ref (ad 8), .ref (ad 9), .ref (ad 10), .ref (ad 11), .ref (ad 12), .ref (ad 13), .int T, .int Dv, .int C])), ((ad 1), .inl (cI, 6, .inl (f 0))), ((ad 2), .inl (cI, 6, .inl (f 1))), ((ad 3), .inl (cI, 6, .inl (f 2))), ((ad 4), .inl (cI, 6, .inl (f 3))), ((ad 5), .inl (cI, 360, .inl (f 4))), ((ad 6), .inl (cI, 360, .inl (f 5))), ((ad 7), .inl (cI, 2, .inl (f 6))), ((ad 8), .inl (cI, 2, .inl (f 7))), ((ad 9), .inl (cI, 20, .inl (f 8))), ((ad 10), .inl (cI, 20, .inl (f 9))), ((ad 11), .inl (cI, 20, .inl (f 10))), ((ad 12), .inl (cI, 20, .inl (f 11)))]) (wF := (fun uZ => (WX cI ad f u46.1 u46.2 T Dv C))) (kX0_high l D cI ad u46.1 u46.2 p1 p2 (p1.toInt.toNat) (p2.toInt.toNat) (by omega) (by omega) (by omega) (by omega)) ⟨hx, hb, hml, hown, hts⟩ (cwV 2 hts vX1_inside_X0_high rfl rfl rfl (by decide +kernel) ⟨Nat.le_of_ble_eq_true rfl, Nat.le_of_ble_eq_true rfl⟩) hK hP hD hS hA [13, 14, 15] [0, 1, 2, 3, 4, 5, 6, 7, 8, 9, 10, 11, 12] [0, 1, 2, 3, 4, 5, 6, 7, 8, 9, 10, 11, 12, 13, 14, 15] rfl (by decide) rfl (by decide) (by decide) (by decide) (fun _ => rfl) rfl rfl rfl rfl hl.1 rfl (Nat.le_of_ble_eq_true rfl) dX1_inside_59 ⟨Nat.zero_le _, Nat.zero_le _⟩ (fun r59 u59 H locs q59 hP hD hS => ?_)
          try dsimp only at q59
          have hP : va_P D vwCl (WX cI ad f u46.1 u46.2 T Dv C) H := hP
          have hD : va_D A (WX cI ad f u46.1 u46.2 T Dv C) := hD
          refine lv_goto (tgt := 74) hx hb dX1_inside_62 (by decide) ?_
          exact c_rx (u46.1, u46.2) hx hb hr hlocks hK hP hD hS dX1_inside_74 (by
                refine Or.inr (Or.inr ⟨by omega, rows_T hrw, rfl, rwX u46.1 u46.2 p1.toInt.toNat, (q46.1 p1.toInt.toNat (by omega) (by omega)).1, ?_⟩)
                have hw : p2.toInt.toNat = 0 ∨ p2.toInt.toNat = 1 ∨ p2.toInt.toNat = 2 := by omega
                rw [if_neg (by omega), q59]
                rcases hw with h | h | h <;> rw [h] <;> rfl)
      · skip
        exact c_thrN (u27.1, u27.2) hx hb hst hown cl100 ci100 hs1 at104 no104 hc2 hd1 hd2 hd3 ot104 hU hN hK hP hD hS (hl.1.trans hml.symm) dX1_inside_34 dX1_inside_37 dX1_inside_38 dX1_inside_40 dX1_inside_43 hnt (Nat.le_of_ble_eq_true rfl) (Nat.le_of_ble_eq_true rfl) (Nat.le_of_ble_eq_true rfl) (Nat.le_of_ble_eq_true rfl) hlocks (Or.inr ⟨rfl, by omega, LA_no q27 (by omega)⟩)
    · skip
      exact c_thr (lo, hi) hx hb hst hown (by decide) cl93 ci93 hs0 at97 no97 hc1 hd1 hd2 hd3 ot97 hU hN hK hP hD hS (hl.1.trans hml.symm) dX1_inside_15 dX1_inside_18 dX1_inside_19 dX1_inside_21 dX1_inside_24 hnt (Nat.le_of_ble_eq_true rfl) (Nat.le_of_ble_eq_true rfl) (Nat.le_of_ble_eq_true rfl) (Nat.le_of_ble_eq_true rfl) hlocks (Or.inl ⟨rfl, by omega⟩)
set_option maxHeartbeats 4000000 in
set_option maxRecDepth 100000 in
theorem kX1_through (l : Launch) (hst : l.stackTraces = false) (D : va_G) (cI : ClassId) (ad : Nat → Nat) (f : Nat → Nat → Int32) (lo : Nat → Int32) (hi : Nat → Int32) (T : Int32) (Dv : Int32) (C : Int32) (Tn : Nat) (Dn : Nat) (Cn : Nat) (p1 : Int32) (p2 : Int32) (p3 : Int32) (sa : Nat → Nat) (hT : T.toInt = (Tn : Int)) (hDv : Dv.toInt = (Dn : Int)) (hC : C.toInt = (Cn : Int)) (hI : Inv f Tn Dn Cn) : MX l yX1_through vsX1_through ({ frames := 6, cells := 1, slots := 6, locals := 136 } : Room) D [(cI, .int)] [.ref (ad 0), .int p1, .int p2, .int p3] (WX cI ad f lo hi T Dv C) sa (fun u : (Nat → Int32) × (Nat → Int32) => (WX cI ad f u.1 u.2 T Dv C)) (fun (r : Int32) (_ : (Nat → Int32) × (Nat → Int32)) => TH (Trv f Tn Dn Cn) f Tn Dn Cn p1.toInt p2.toInt p3.toInt 0 r.toInt) (fun (E : String) (_ : (Nat → Int32) × (Nat → Int32)) => (E = eI ∧ ¬ ((0 ≤ p1.toInt ∧ p1.toInt < (Dn : Int)) ∧ (0 ≤ p2.toInt ∧ p2.toInt < (Tn : Int)))) ∨ (E = eN ∧ ((0 ≤ p1.toInt ∧ p1.toInt < (Dn : Int)) ∧ (0 ≤ p2.toInt ∧ p2.toInt < (Tn : Int))) ∧ noT f Tn Dn Cn 0)) := by
  refine c_entX (cc := cX1_through) (maxL := 4) (ret := (some .int)) (by decide) rfl (Nat.le_of_ble_eq_true rfl) ?_
  intro p e s m below meth c A ls hx hb hr hlocks hts hown hml hK hP hD hA hl hnt hth
  obtain ⟨hU, hN, ⟨hs0, hs1, hs2, hs3, hs4⟩, hc1, hc2, hd1, hd2, hd3⟩ := id hth
  have cl93 := hts (.classLink RX1 93 eI) (by decide +kernel)
  have ci93 := hts (.initialized eI) (by decide +kernel)
  have cl100 := hts (.classLink RX1 100 eN) (by decide +kernel)
  have ci100 := hts (.initialized eN) (by decide +kernel)
  have at97 : ∀ w ∈ (vx_atS RX1 97 eI eNs).filter goodWord, w.before [.ref (ad 0), .int p1, .int p2, .int p3].toArray s = true := fun w h => hts w (List.mem_cons_of_mem _ (List.mem_append_left _ (List.mem_append_right _ h)))
  have at104 : ∀ w ∈ nW.filter goodWord, w.before [.ref (ad 0), .int p1, .int p2, .int p3].toArray s = true := fun w h => hts w (List.mem_cons_of_mem _ (List.mem_append_right _ h))
  have hS : va_S A s.heap s.heap [] := va_S.rf
  have hl : lv_has ls 4 [(0, .ref (ad 0)), (1, .int p1), (2, .int p2), (3, .int p3)] := hl
  have hP : va_P D vwCl (WX cI ad f lo hi T Dv C) s.heap := hP
  obtain ⟨hI0, hId, hIr, hIs, hIc⟩ := id hI
  refine lv_aload_n hx hb dX1_through_0 rfl (lv_at hl 0 rfl) ?_
  refine lv_iload_n hx hb dX1_through_1 rfl (lv_at hl 1 rfl) ?_
  refine c_wvi (As := [.int p1]) (ci := 1) (q0 := 0) (kX1_isDoor l D cI ad f lo hi T Dv C Tn Dn Cn p1 hT hDv hC hI) ⟨hx, hb, hml, hown, hts⟩ (cwV 1 hts vX1_through_X1_isDoor rfl rfl rfl (by decide +kernel) ⟨Nat.le_of_ble_eq_true rfl, Nat.le_of_ble_eq_true rfl⟩) hK hP hD hS hA rfl rfl rfl rfl hl.1 rfl (Nat.le_of_ble_eq_true rfl) dX1_through_2 ⟨Nat.zero_le _, Nat.zero_le _⟩ (fun r2 u2 H locs q2 hP hD hS => ?_)
  try dsimp only at q2
  have hP : va_P D vwCl (WX cI ad f lo hi T Dv C) H := hP
  have hD : va_D A (WX cI ad f lo hi T Dv C) := hD
  refine c_if_eq (tgt := 16) hx hb dX1_through_5 (by decide) (fun c5 => ?_) (fun c5 => ?_)
  · skip
    exact c_thr (lo, hi) hx hb hst hown (by decide) cl93 ci93 hs2 at97 no97 hc1 hd1 hd2 hd3 ot97 hU hN hK hP hD hS (hl.1.trans hml.symm) dX1_through_16 dX1_through_19 dX1_through_20 dX1_through_22 dX1_through_25 hnt (Nat.le_of_ble_eq_true rfl) (Nat.le_of_ble_eq_true rfl) (Nat.le_of_ble_eq_true rfl) (Nat.le_of_ble_eq_true rfl) hlocks (Or.inl ⟨rfl, by omega⟩)
  · skip
    refine lv_aload_n hx hb dX1_through_8 rfl (lv_at hl 0 rfl) ?_
    refine lv_iload_n hx hb dX1_through_9 rfl (lv_at hl 2 rfl) ?_
    refine c_wvi (As := [.int p2]) (ci := 1) (q0 := 0) (kX1_isTick l D cI ad f lo hi T Dv C Tn Dn Cn p2 hT hDv hC hI) ⟨hx, hb, hml, hown, hts⟩ (cwV 1 hts vX1_through_X1_isTick rfl rfl rfl (by decide +kernel) ⟨Nat.le_of_ble_eq_true rfl, Nat.le_of_ble_eq_true rfl⟩) hK hP hD hS hA rfl rfl rfl rfl hl.1 rfl (Nat.le_of_ble_eq_true rfl) dX1_through_10 ⟨Nat.zero_le _, Nat.zero_le _⟩ (fun r10 u10 H locs q10 hP hD hS => ?_)
    try dsimp only at q10
    have hP : va_P D vwCl (WX cI ad f lo hi T Dv C) H := hP
    have hD : va_D A (WX cI ad f lo hi T Dv C) := hD
    refine c_if_ne (tgt := 26) hx hb dX1_through_13 (by decide) (fun c13 => ?_) (fun c13 => ?_)
    · skip
      refine lv_aload_n hx hb dX1_through_26 rfl (lv_at hl 0 rfl) ?_
      refine c_iconst hx hb dX1_through_27 (by decide) (fun v27 i27 => ?_)
      refine c_wvi (As := [.int v27]) (ci := 1) (q0 := 0) (kX1_lookAhead l D cI ad f lo hi T Dv C Tn Dn Cn v27 hT hDv hC hI (by omega)) ⟨hx, hb, hml, hown, hts⟩ (cwV 1 hts vX1_through_X1_lookAhead rfl rfl rfl (by decide +kernel) ⟨Nat.le_of_ble_eq_true rfl, Nat.le_of_ble_eq_true rfl⟩) hK hP hD hS hA rfl rfl rfl rfl hl.1 rfl (Nat.le_of_ble_eq_true rfl) dX1_through_28 ⟨Nat.zero_le _, Nat.zero_le _⟩ (fun r28 u28 H locs q28 hP hD hS => ?_)
      try dsimp only at q28
      have hP : va_P D vwCl (WX cI ad f u28.1 u28.2 T Dv C) H := hP
      have hD : va_D A (WX cI ad f u28.1 u28.2 T Dv C) := hD
      rw [i27] at q28
      refine c_iconst hx hb dX1_through_31 (by decide) (fun v31 i31 => ?_)
      refine c_icmp_eq (tgt := 45) hx hb dX1_through_32 (by decide) (fun c32 => ?_) (fun c32 => ?_)
      · skip
        have hrw : ∀ j, j ≤ Tn → Tt (rwX u28.1 u28.2 j) (Fw f Dn Cn 0 j) ∧ bh (rwX u28.1 u28.2 j) 50000 := LA_rows q28 (by omega)
        refine lv_aload_n hx hb dX1_through_45 rfl (lv_at hl 0 rfl) ?_
        refine lv_iload_n hx hb dX1_through_46 rfl (lv_at hl 2 rfl) ?_
        refine c_iconst hx hb dX1_through_47 (by decide) (fun v47 i47 => ?_)
        refine c_iadd hx hb dX1_through_48 (by omega) (fun v48 i48 => ?_)
        refine c_wvv (As := [.int v48]) (ci := 1) (q0 := 0) (kX1_lookBackTo l D cI ad f u28.1 u28.2 T Dv C Tn Dn Cn v48 (p2.toInt.toNat + 1) hT hDv hC hI (by omega) (by omega) hrw) ⟨hx, hb, hml, hown, hts⟩ (cwV 1 hts vX1_through_X1_lookBackTo rfl rfl rfl (by decide +kernel) ⟨Nat.le_of_ble_eq_true rfl, Nat.le_of_ble_eq_true rfl⟩) hK hP hD hS hA rfl rfl rfl rfl hl.1 rfl (Nat.le_of_ble_eq_true rfl) dX1_through_49 ⟨Nat.zero_le _, Nat.zero_le _⟩ (fun u49 H locs q49 hP hD hS => ?_)
        try dsimp only at q49
        have hP : va_P D vwCl (WX cI ad f u49.1 u49.2 T Dv C) H := hP
        have hD : va_D A (WX cI ad f u49.1 u49.2 T Dv C) := hD
        refine lv_aload_n hx hb dX1_through_52 rfl (lv_at hl 0 rfl) ?_
        refine lv_iload_n hx hb dX1_through_53 rfl (lv_at hl 2 rfl) ?_
        refine c_iconst hx hb dX1_through_54 (by decide) (fun v54 i54 => ?_)
        refine lv_iload_n hx hb dX1_through_55 rfl (lv_at hl 1 rfl) ?_
        refine c_wvv (As := [.int p2, .int v54, .int p1]) (ci := 1) (q0 := 0) (kX1_gatherChange l D cI ad f u49.1 u49.2 T Dv C Tn Dn Cn p2 v54 p1 (p2.toInt.toNat) hT hDv hC hI (by omega) (by omega) (by omega)) ⟨hx, hb, hml, hown, hts⟩ (cwV 3 hts vX1_through_X1_gatherChange rfl rfl rfl (by decide +kernel) ⟨Nat.le_of_ble_eq_true rfl, Nat.le_of_ble_eq_true rfl⟩) hK hP hD hS hA rfl rfl rfl rfl hl.1 rfl (Nat.le_of_ble_eq_true rfl) dX1_through_56 ⟨Nat.zero_le _, Nat.zero_le _⟩ (fun u56 H locs q56 hP hD hS => ?_)
        try dsimp only at q56
        have hP : va_P D vwCl (WX cI ad f u56.1 u56.2 T Dv C) H := hP
        have hD : va_D A (WX cI ad f u56.1 u56.2 T Dv C) := hD
        rw [i54] at q56
        have e1 : rwX u56.1 u56.2 (p2.toInt.toNat + 1) = rwX u49.1 u49.2 (p2.toInt.toNat + 1) := rw_keep (fun j h1 h2 => q56.2 j (by omega))
        have e0 : rwX u56.1 u56.2 p2.toInt.toNat = rwX u28.1 u28.2 p2.toInt.toNat := (rw_keep (fun j h1 h2 => q56.2 j (by omega))).trans (rw_keep (fun j h1 h2 => q49.2 j (by omega)))
        obtain ⟨hTy, hby⟩ := q49.1 (p2.toInt.toNat + 1) (Nat.le_refl _) (by omega)
        obtain ⟨hTx, hbx⟩ := hrw p2.toInt.toNat (by omega)
        have hcb := crow_bd (mr := 0) (but := p1.toInt) hI (show p2.toInt.toNat < Tn by omega) (by omega) (by omega) Dn (Nat.le_refl _)
        have hb1 : bd (rwX u56.1 u56.2 (p2.toInt.toNat + 1)) 1000000 := by rw [e1]; exact bh_bd hby (by omega)
        have hb2 : bd (rwX u56.1 u56.2 p2.toInt.toNat) 1000000 := by rw [e0]; exact bh_bd hbx (by omega)
        have hb3 : bd (rwX u56.1 u56.2 61) 1000000 := by have w1 := q56.1; have w2 := hcb.2; unfold eq6 at w1; unfold bd at *; omega
        refine lv_iload_n hx hb dX1_through_59 rfl (lv_at hl 3 rfl) ?_
        refine c_if_eq (tgt := 72) hx hb dX1_through_60 (by decide) (fun c60 => ?_) (fun c60 => ?_)
        · skip
          refine lv_aload_n hx hb dX1_through_72 rfl (lv_at hl 0 rfl) ?_
          refine lv_iload_n hx hb dX1_through_73 rfl (lv_at hl 1 rfl) ?_
          refine lv_iload_n hx hb dX1_through_74 rfl (lv_at hl 2 rfl) ?_
          refine c_wvi (As := [.int p1, .int p2]) (ci := 1) (q0 := 0) (kX1_leastThrough l D cI ad f u56.1 u56.2 T Dv C Tn Dn Cn p1 p2 (p1.toInt.toNat) (p2.toInt.toNat) hT hDv hC hI (by omega) (by omega) (by omega) (by omega) hb1 hb2 hb3) ⟨hx, hb, hml, hown, hts⟩ (cwV 2 hts vX1_through_X1_leastThrough rfl rfl rfl (by decide +kernel) ⟨Nat.le_of_ble_eq_true rfl, Nat.le_of_ble_eq_true rfl⟩) hK hP hD hS hA rfl rfl rfl rfl hl.1 rfl (Nat.le_of_ble_eq_true rfl) dX1_through_75 ⟨Nat.zero_le _, Nat.zero_le _⟩ (fun r75 u75 H locs q75 hP hD hS => ?_)
          try dsimp only at q75
          have hP : va_P D vwCl (WX cI ad f u56.1 u56.2 T Dv C) H := hP
          have hD : va_D A (WX cI ad f u56.1 u56.2 T Dv C) := hD
          exact c_rx (u56.1, u56.2) hx hb hr hlocks hK hP hD hS dX1_through_78 (by
                refine Or.inr (Or.inr ⟨by omega, rows_T hrw, rfl, rwX u56.1 u56.2 p2.toInt.toNat, rwX u56.1 u56.2 (p2.toInt.toNat + 1), rwX u56.1 u56.2 61, by rw [e0]; exact hTx, by rw [e1]; exact hTy, q56.1, ?_⟩)
                rw [if_pos (by omega), q75])
        · skip
          refine lv_aload_n hx hb dX1_through_63 rfl (lv_at hl 0 rfl) ?_
          refine lv_iload_n hx hb dX1_through_64 rfl (lv_at hl 1 rfl) ?_
          refine lv_iload_n hx hb dX1_through_65 rfl (lv_at hl 2 rfl) ?_
          refine c_wvi (As := [.int p1, .int p2]) (ci := 1) (q0 := 0) (kX1_mostThrough l D cI ad f u56.1 u56.2 T Dv C Tn Dn Cn p1 p2 (p1.toInt.toNat) (p2.toInt.toNat) hT hDv hC hI (by omega) (by omega) (by omega) (by omega) hb1 hb2 hb3) ⟨hx, hb, hml, hown, hts⟩ (cwV 2 hts vX1_through_X1_mostThrough rfl rfl rfl (by decide +kernel) ⟨Nat.le_of_ble_eq_true rfl, Nat.le_of_ble_eq_true rfl⟩) hK hP hD hS hA rfl rfl rfl rfl hl.1 rfl (Nat.le_of_ble_eq_true rfl) dX1_through_66 ⟨Nat.zero_le _, Nat.zero_le _⟩ (fun r66 u66 H locs q66 hP hD hS => ?_)
          try dsimp only at q66
          have hP : va_P D vwCl (WX cI ad f u56.1 u56.2 T Dv C) H := hP
          have hD : va_D A (WX cI ad f u56.1 u56.2 T Dv C) := hD
          refine lv_goto (tgt := 78) hx hb dX1_through_69 (by decide) ?_
          exact c_rx (u56.1, u56.2) hx hb hr hlocks hK hP hD hS dX1_through_78 (by
                refine Or.inr (Or.inr ⟨by omega, rows_T hrw, rfl, rwX u56.1 u56.2 p2.toInt.toNat, rwX u56.1 u56.2 (p2.toInt.toNat + 1), rwX u56.1 u56.2 61, by rw [e0]; exact hTx, by rw [e1]; exact hTy, q56.1, ?_⟩)
                rw [if_neg (by omega), q66])
      · skip
        exact c_thrN (u28.1, u28.2) hx hb hst hown cl100 ci100 hs1 at104 no104 hc2 hd1 hd2 hd3 ot104 hU hN hK hP hD hS (hl.1.trans hml.symm) dX1_through_35 dX1_through_38 dX1_through_39 dX1_through_41 dX1_through_44 hnt (Nat.le_of_ble_eq_true rfl) (Nat.le_of_ble_eq_true rfl) (Nat.le_of_ble_eq_true rfl) (Nat.le_of_ble_eq_true rfl) hlocks (Or.inr ⟨rfl, by omega, LA_no q28 (by omega)⟩)
    · skip
      exact c_thr (lo, hi) hx hb hst hown (by decide) cl93 ci93 hs2 at97 no97 hc1 hd1 hd2 hd3 ot97 hU hN hK hP hD hS (hl.1.trans hml.symm) dX1_through_16 dX1_through_19 dX1_through_20 dX1_through_22 dX1_through_25 hnt (Nat.le_of_ble_eq_true rfl) (Nat.le_of_ble_eq_true rfl) (Nat.le_of_ble_eq_true rfl) (Nat.le_of_ble_eq_true rfl) hlocks (Or.inl ⟨rfl, by omega⟩)
set_option maxHeartbeats 4000000 in
set_option maxRecDepth 100000 in
theorem kX1_look (l : Launch) (hst : l.stackTraces = false) (D : va_G) (cI : ClassId) (ad : Nat → Nat) (f : Nat → Nat → Int32) (lo : Nat → Int32) (hi : Nat → Int32) (T : Int32) (Dv : Int32) (C : Int32) (Tn : Nat) (Dn : Nat) (Cn : Nat) (p1 : Int32) (p2 : Int32) (sa : Nat → Nat) (hT : T.toInt = (Tn : Int)) (hDv : Dv.toInt = (Dn : Int)) (hC : C.toInt = (Cn : Int)) (hI : Inv f Tn Dn Cn) : MX l yX1_look vsX1_look ({ frames := 6, cells := 1, slots := 6, locals := 90 } : Room) D [(cI, .int)] [.ref (ad 0), .int p1, .int p2] (WX cI ad f lo hi T Dv C) sa (fun u : Unit => (WX cI ad f lo hi T Dv C)) (fun (r : Int32) (_ : Unit) => LK f Tn Dn p1.toInt p2.toInt 0 r.toInt) (fun (E : String) (_ : Unit) => (E = eI ∧ ¬ (0 ≤ p1.toInt ∧ p1.toInt < (Dn : Int))) ∨ (E = eN ∧ (0 ≤ p1.toInt ∧ p1.toInt < (Dn : Int)) ∧ (p2.toInt < 0 ∨ 6 < p2.toInt))) := by
  refine c_entX (cc := cX1_look) (maxL := 3) (ret := (some .int)) (by decide) rfl (Nat.le_of_ble_eq_true rfl) ?_
  intro p e s m below meth c A ls hx hb hr hlocks hts hown hml hK hP hD hA hl hnt hth
  obtain ⟨hU, hN, ⟨hs0, hs1, hs2, hs3, hs4⟩, hc1, hc2, hd1, hd2, hd3⟩ := id hth
  have cl93 := hts (.classLink RX1 93 eI) (by decide +kernel)
  have ci93 := hts (.initialized eI) (by decide +kernel)
  have cl100 := hts (.classLink RX1 100 eN) (by decide +kernel)
  have ci100 := hts (.initialized eN) (by decide +kernel)
  have at97 : ∀ w ∈ (vx_atS RX1 97 eI eNs).filter goodWord, w.before [.ref (ad 0), .int p1, .int p2].toArray s = true := fun w h => hts w (List.mem_cons_of_mem _ (List.mem_append_left _ (List.mem_append_right _ h)))
  have at104 : ∀ w ∈ nW.filter goodWord, w.before [.ref (ad 0), .int p1, .int p2].toArray s = true := fun w h => hts w (List.mem_cons_of_mem _ (List.mem_append_right _ h))
  have hS : va_S A s.heap s.heap [] := va_S.rf
  have hl : lv_has ls 3 [(0, .ref (ad 0)), (1, .int p1), (2, .int p2)] := hl
  have hP : va_P D vwCl (WX cI ad f lo hi T Dv C) s.heap := hP
  have fl9 := hts (.fieldLink RX1 9 "DoorBench" "kinds" "[I") (by decide +kernel)
  have fl13 := hts (.fieldLink RX1 13 "DoorBench" "misses" "[I") (by decide +kernel)
  have fl16 := hts (.fieldLink RX1 16 "DoorBench" "doubles" "[I") (by decide +kernel)
  have fl19 := hts (.fieldLink RX1 19 "DoorBench" "caps" "[I") (by decide +kernel)
  have fl22 := hts (.fieldLink RX1 22 "DoorBench" "toldIn" "[I") (by decide +kernel)
  have fl25 := hts (.fieldLink RX1 25 "DoorBench" "toldOut" "[I") (by decide +kernel)
  have inX1 : ∀ w ∈ wsX10, w ∈ vsX1_look := by decide +kernel
  obtain ⟨hI0, hId, hIr, hIs, hIc⟩ := id hI
  refine lv_aload_n hx hb dX1_look_0 rfl (lv_at hl 0 rfl) ?_
  refine lv_iload_n hx hb dX1_look_1 rfl (lv_at hl 1 rfl) ?_
  refine c_wvi (As := [.int p1]) (ci := 1) (q0 := 0) (kX1_isDoor l D cI ad f lo hi T Dv C Tn Dn Cn p1 hT hDv hC hI) ⟨hx, hb, hml, hown, hts⟩ (cwV 1 hts vX1_look_X1_isDoor rfl rfl rfl (by decide +kernel) ⟨Nat.le_of_ble_eq_true rfl, Nat.le_of_ble_eq_true rfl⟩) hK hP hD hS hA rfl rfl rfl rfl hl.1 rfl (Nat.le_of_ble_eq_true rfl) dX1_look_2 ⟨Nat.zero_le _, Nat.zero_le _⟩ (fun r2 u2 H locs q2 hP hD hS => ?_)
  try dsimp only at q2
  have hP : va_P D vwCl (WX cI ad f lo hi T Dv C) H := hP
  have hD : va_D A (WX cI ad f lo hi T Dv C) := hD
  refine c_if_ne (tgt := 18) hx hb dX1_look_5 (by decide) (fun c5 => ?_) (fun c5 => ?_)
  · skip
    refine lv_iload_n hx hb dX1_look_18 rfl (lv_at hl 2 rfl) ?_
    by_cases o19 : p2.toInt < 0 ∨ 6 < p2.toInt
    · skip
      refine lv_tableOut (tgt := 114) hx hb dX1_look_19 o19 (by decide) ?_
      exact c_thrN () hx hb hst hown cl100 ci100 hs4 at104 no104 hc2 hd1 hd2 hd3 ot104 hU hN hK hP hD hS (hl.1.trans hml.symm) dX1_look_114 dX1_look_117 dX1_look_118 dX1_look_120 dX1_look_123 hnt (Nat.le_of_ble_eq_true rfl) (Nat.le_of_ble_eq_true rfl) (Nat.le_of_ble_eq_true rfl) (Nat.le_of_ble_eq_true rfl) hlocks (Or.inr ⟨rfl, by omega, by omega⟩)
    · skip
      rcases (show p2.toInt = 0 ∨ p2.toInt = 1 ∨ p2.toInt = 2 ∨ p2.toInt = 3 ∨ p2.toInt = 4 ∨ p2.toInt = 5 ∨ p2.toInt = 6 by omega) with w19 | w19 | w19 | w19 | w19 | w19 | w19
      · skip
        refine lv_tableIn (off := 41) (tgt := 60) hx hb dX1_look_19 (by omega) (by omega) (by rw [w19]; rfl) (by decide) ?_
        refine lv_aload_n hx hb dX1_look_60 rfl (lv_at hl 0 rfl) ?_
        refine va_get (D := D) (ci := 1) (v := .ref (ad 1)) (C := RX1) (T := TX1) (N := 16) hx hb hts inX1 hown hK hP 0 rfl rfl 0 (by decide) fl9 (fun _ h9 => h9) rfl dX1_look_61 ?_
        refine lv_iload_n hx hb dX1_look_64 rfl (lv_at hl 1 rfl) ?_
        refine c_iald hx hb hK hP 1 0 rfl rfl (p1.toInt.toNat) (by omega) (by omega) dX1_look_65 (fun v65 e65 => ?_)
        have i65 : v65.toInt = ((f 0) (p1.toInt.toNat)).toInt := by rw [e65]
        exact c_rx () hx hb hr hlocks hK hP hD hS dX1_look_66 (Or.inr (Or.inr ⟨by omega, rfl, Or.inl ⟨by omega, i65⟩⟩))
      · skip
        refine lv_tableIn (off := 48) (tgt := 67) hx hb dX1_look_19 (by omega) (by omega) (by rw [w19]; rfl) (by decide) ?_
        refine lv_aload_n hx hb dX1_look_67 rfl (lv_at hl 0 rfl) ?_
        refine va_get (D := D) (ci := 1) (v := .ref (ad 2)) (C := RX1) (T := TX1) (N := 16) hx hb hts inX1 hown hK hP 0 rfl rfl 1 (by decide) fl13 (fun _ h9 => h9) rfl dX1_look_68 ?_
        refine lv_iload_n hx hb dX1_look_71 rfl (lv_at hl 1 rfl) ?_
        refine c_iald hx hb hK hP 2 0 rfl rfl (p1.toInt.toNat) (by omega) (by omega) dX1_look_72 (fun v72 e72 => ?_)
        have i72 : v72.toInt = ((f 1) (p1.toInt.toNat)).toInt := by rw [e72]
        exact c_rx () hx hb hr hlocks hK hP hD hS dX1_look_73 (Or.inr (Or.inr ⟨by omega, rfl, Or.inr (Or.inl ⟨by omega, i72⟩)⟩))
      · skip
        refine lv_tableIn (off := 55) (tgt := 74) hx hb dX1_look_19 (by omega) (by omega) (by rw [w19]; rfl) (by decide) ?_
        refine lv_aload_n hx hb dX1_look_74 rfl (lv_at hl 0 rfl) ?_
        refine va_get (D := D) (ci := 1) (v := .ref (ad 3)) (C := RX1) (T := TX1) (N := 16) hx hb hts inX1 hown hK hP 0 rfl rfl 2 (by decide) fl16 (fun _ h9 => h9) rfl dX1_look_75 ?_
        refine lv_iload_n hx hb dX1_look_78 rfl (lv_at hl 1 rfl) ?_
        refine c_iald hx hb hK hP 3 0 rfl rfl (p1.toInt.toNat) (by omega) (by omega) dX1_look_79 (fun v79 e79 => ?_)
        have i79 : v79.toInt = ((f 2) (p1.toInt.toNat)).toInt := by rw [e79]
        exact c_rx () hx hb hr hlocks hK hP hD hS dX1_look_80 (Or.inr (Or.inr ⟨by omega, rfl, Or.inr (Or.inr (Or.inl ⟨by omega, i79⟩))⟩))
      · skip
        refine lv_tableIn (off := 62) (tgt := 81) hx hb dX1_look_19 (by omega) (by omega) (by rw [w19]; rfl) (by decide) ?_
        refine lv_aload_n hx hb dX1_look_81 rfl (lv_at hl 0 rfl) ?_
        refine va_get (D := D) (ci := 1) (v := .ref (ad 4)) (C := RX1) (T := TX1) (N := 16) hx hb hts inX1 hown hK hP 0 rfl rfl 3 (by decide) fl19 (fun _ h9 => h9) rfl dX1_look_82 ?_
        refine lv_iload_n hx hb dX1_look_85 rfl (lv_at hl 1 rfl) ?_
        refine c_iald hx hb hK hP 4 0 rfl rfl (p1.toInt.toNat) (by omega) (by omega) dX1_look_86 (fun v86 e86 => ?_)
        have i86 : v86.toInt = ((f 3) (p1.toInt.toNat)).toInt := by rw [e86]
        exact c_rx () hx hb hr hlocks hK hP hD hS dX1_look_87 (Or.inr (Or.inr ⟨by omega, rfl, Or.inr (Or.inr (Or.inr (Or.inl ⟨by omega, i86⟩)))⟩))
      · skip
        refine lv_tableIn (off := 69) (tgt := 88) hx hb dX1_look_19 (by omega) (by omega) (by rw [w19]; rfl) (by decide) ?_
        refine lv_aload_n hx hb dX1_look_88 rfl (lv_at hl 0 rfl) ?_
        refine lv_iload_n hx hb dX1_look_89 rfl (lv_at hl 1 rfl) ?_
        refine c_wvi (As := [.int p1]) (ci := 1) (q0 := 0) (kX1_toldRows l D cI ad f lo hi T Dv C Tn Dn Cn p1 (p1.toInt.toNat) hT hDv hC hI (by omega) (by omega)) ⟨hx, hb, hml, hown, hts⟩ (cwV 1 hts vX1_look_X1_toldRows rfl rfl rfl (by decide +kernel) ⟨Nat.le_of_ble_eq_true rfl, Nat.le_of_ble_eq_true rfl⟩) hK hP hD hS hA rfl rfl rfl rfl hl.1 rfl (Nat.le_of_ble_eq_true rfl) dX1_look_90 ⟨Nat.zero_le _, Nat.zero_le _⟩ (fun r90 u90 H locs q90 hP hD hS => ?_)
        try dsimp only at q90
        have hP : va_P D vwCl (WX cI ad f lo hi T Dv C) H := hP
        have hD : va_D A (WX cI ad f lo hi T Dv C) := hD
        exact c_rx () hx hb hr hlocks hK hP hD hS dX1_look_93 (Or.inr (Or.inr ⟨by omega, rfl, Or.inr (Or.inr (Or.inr (Or.inr (Or.inl ⟨by omega, q90⟩))))⟩))
      · skip
        refine lv_tableIn (off := 75) (tgt := 94) hx hb dX1_look_19 (by omega) (by omega) (by rw [w19]; rfl) (by decide) ?_
        refine lv_aload_n hx hb dX1_look_94 rfl (lv_at hl 0 rfl) ?_
        refine lv_aload_n hx hb dX1_look_95 rfl (lv_at hl 0 rfl) ?_
        refine va_get (D := D) (ci := 1) (v := .ref (ad 5)) (C := RX1) (T := TX1) (N := 16) hx hb hts inX1 hown hK hP 0 rfl rfl 4 (by decide) fl22 (fun _ h9 => h9) rfl dX1_look_96 ?_
        refine lv_iload_n hx hb dX1_look_99 rfl (lv_at hl 1 rfl) ?_
        refine c_wvi (As := [.ref (ad 5), .int p1]) (ci := 1) (q0 := 0) (kX1_toldSumI l D cI ad f lo hi T Dv C Tn Dn Cn p1 (p1.toInt.toNat) hT hDv hC hI (by omega) (by omega)) ⟨hx, hb, hml, hown, hts⟩ (cwV 2 hts vX1_look_X1_toldSum rfl rfl rfl (by decide +kernel) ⟨Nat.le_of_ble_eq_true rfl, Nat.le_of_ble_eq_true rfl⟩) hK hP hD hS hA rfl rfl rfl rfl hl.1 rfl (Nat.le_of_ble_eq_true rfl) dX1_look_100 ⟨Nat.zero_le _, Nat.zero_le _⟩ (fun r100 u100 H locs q100 hP hD hS => ?_)
        try dsimp only at q100
        have hP : va_P D vwCl (WX cI ad f lo hi T Dv C) H := hP
        have hD : va_D A (WX cI ad f lo hi T Dv C) := hD
        exact c_rx () hx hb hr hlocks hK hP hD hS dX1_look_103 (Or.inr (Or.inr ⟨by omega, rfl, Or.inr (Or.inr (Or.inr (Or.inr (Or.inr (Or.inl ⟨by omega, q100⟩)))))⟩))
      · skip
        refine lv_tableIn (off := 85) (tgt := 104) hx hb dX1_look_19 (by omega) (by omega) (by rw [w19]; rfl) (by decide) ?_
        refine lv_aload_n hx hb dX1_look_104 rfl (lv_at hl 0 rfl) ?_
        refine lv_aload_n hx hb dX1_look_105 rfl (lv_at hl 0 rfl) ?_
        refine va_get (D := D) (ci := 1) (v := .ref (ad 6)) (C := RX1) (T := TX1) (N := 16) hx hb hts inX1 hown hK hP 0 rfl rfl 5 (by decide) fl25 (fun _ h9 => h9) rfl dX1_look_106 ?_
        refine lv_iload_n hx hb dX1_look_109 rfl (lv_at hl 1 rfl) ?_
        refine c_wvi (As := [.ref (ad 6), .int p1]) (ci := 1) (q0 := 0) (kX1_toldSumO l D cI ad f lo hi T Dv C Tn Dn Cn p1 (p1.toInt.toNat) hT hDv hC hI (by omega) (by omega)) ⟨hx, hb, hml, hown, hts⟩ (cwV 2 hts vX1_look_X1_toldSum rfl rfl rfl (by decide +kernel) ⟨Nat.le_of_ble_eq_true rfl, Nat.le_of_ble_eq_true rfl⟩) hK hP hD hS hA rfl rfl rfl rfl hl.1 rfl (Nat.le_of_ble_eq_true rfl) dX1_look_110 ⟨Nat.zero_le _, Nat.zero_le _⟩ (fun r110 u110 H locs q110 hP hD hS => ?_)
        try dsimp only at q110
        have hP : va_P D vwCl (WX cI ad f lo hi T Dv C) H := hP
        have hD : va_D A (WX cI ad f lo hi T Dv C) := hD
        exact c_rx () hx hb hr hlocks hK hP hD hS dX1_look_113 (Or.inr (Or.inr ⟨by omega, rfl, Or.inr (Or.inr (Or.inr (Or.inr (Or.inr (Or.inr ⟨by omega, q110⟩)))))⟩))
  · skip
    exact c_thr () hx hb hst hown (by decide) cl93 ci93 hs3 at97 no97 hc1 hd1 hd2 hd3 ot97 hU hN hK hP hD hS (hl.1.trans hml.symm) dX1_look_8 dX1_look_11 dX1_look_12 dX1_look_14 dX1_look_17 hnt (Nat.le_of_ble_eq_true rfl) (Nat.le_of_ble_eq_true rfl) (Nat.le_of_ble_eq_true rfl) (Nat.le_of_ble_eq_true rfl) hlocks (Or.inl ⟨rfl, by omega⟩)
