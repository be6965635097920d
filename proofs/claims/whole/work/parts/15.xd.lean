def FA (f : Nat → Nat → Int32) (Tn Dn Cn : Nat) (lim r : Int) (which : Nat) : Prop :=
  ((¬ (0 ≤ lim ∧ lim ≤ 99999) ∨ noT f Tn Dn Cn 0) ∧ r = -1) ∨
  ((0 ≤ lim ∧ lim ≤ 99999) ∧ ∃ R : Nat → Nat → Int, (∀ j, j ≤ Tn → Tt (R j) (Trv f Tn Dn Cn (Tn - j))) ∧ ((∃ t : Nat, t ≤ Tn ∧ r = (t : Int) ∧ lim < R t which ∧ ∀ j, j < t → R j which ≤ lim) ∨ (r = -1 ∧ ∀ j, j ≤ Tn → R j which ≤ lim)))
theorem LA_rows {f : Nat → Nat → Int32} {Tn Dn Cn : Nat} {mr r : Int} {R : Nat → Nat → Int} (h : LA f Tn Dn Cn mr r R) (hr : r = -1) : ∀ j, j ≤ Tn → Tt (R j) (Fw f Dn Cn mr j) ∧ bh (R j) 50000 := by
  rcases h with ⟨-, h⟩ | ⟨t, h1, h2, -, -⟩
  · exact h
  · omega
theorem LA_no {f : Nat → Nat → Int32} {Tn Dn Cn : Nat} {mr r : Int} {R : Nat → Nat → Int} (h : LA f Tn Dn Cn mr r R) (hr : r ≠ -1) : noT f Tn Dn Cn mr := by
  rcases h with ⟨h, -⟩ | ⟨t, h1, h2, h3, -⟩
  · exact absurd h hr
  · exact ⟨t, h1, h3⟩
theorem LA_ge {f : Nat → Nat → Int32} {Tn Dn Cn : Nat} {mr r : Int} {R : Nat → Nat → Int} (h : LA f Tn Dn Cn mr r R) : -1 ≤ r ∧ r ≤ (Tn : Int) := by
  rcases h with ⟨h, -⟩ | ⟨t, h1, h2, h3, -⟩ <;> omega
set_option maxHeartbeats 4000000 in
set_option maxRecDepth 100000 in
theorem kX1_lookBackTo (l : Launch) (D : va_G) (cI : ClassId) (ad : Nat → Nat) (f : Nat → Nat → Int32) (lo : Nat → Int32) (hi : Nat → Int32) (T : Int32) (Dv : Int32) (C : Int32) (Tn : Nat) (Dn : Nat) (Cn : Nat) (p1 : Int32) (k0 : Nat) (hT : T.toInt = (Tn : Int)) (hDv : Dv.toInt = (Dn : Int)) (hC : C.toInt = (Cn : Int)) (hI : Inv f Tn Dn Cn) (hk0 : p1.toInt = (k0 : Int)) (hkn : k0 ≤ Tn) (hrw : (∀ j, j ≤ Tn → Tt (rwX lo hi j) (Fw f Dn Cn 0 j) ∧ bh (rwX lo hi j) 50000)) : MV l yX1_lookBackTo wsX1_lookBackTo ({ frames := 4, cells := 0, slots := 0, locals := 93 } : Room) D [(cI, .int)] [.ref (ad 0), .int p1] (WX cI ad f lo hi T Dv C) (fun u : (Nat → Int32) × (Nat → Int32) => (WX cI ad f u.1 u.2 T Dv C)) (fun (u : (Nat → Int32) × (Nat → Int32)) => (∀ j, k0 ≤ j → j ≤ Tn → Tt (rwX u.1 u.2 j) (Trv f Tn Dn Cn (Tn - j)) ∧ bh (rwX u.1 u.2 j) 50000) ∧ ∀ j, j < 3 * k0 → u.1 j = lo j ∧ u.2 j = hi j) := by
  refine c_ent (cc := cX1_lookBackTo) (maxL := 3) (ret := none) (Qc := fun A => va_Qv (fun (u : (Nat → Int32) × (Nat → Int32)) => (∀ j, k0 ≤ j → j ≤ Tn → Tt (rwX u.1 u.2 j) (Trv f Tn Dn Cn (Tn - j)) ∧ bh (rwX u.1 u.2 j) 50000) ∧ ∀ j, j < 3 * k0 → u.1 j = lo j ∧ u.2 j = hi j) (cB D [(cI, .int)] A (fun u : (Nat → Int32) × (Nat → Int32) => (WX cI ad f u.1 u.2 T Dv C))) A) (by decide) rfl (Nat.le_of_ble_eq_true rfl) ?_
  intro p e s m below meth c A ls hx hb hr hlocks hts hown hml hK hP hD hA hl
  have hS : va_S A s.heap s.heap [] := va_S.rf
  have hl : lv_has ls 3 [(0, .ref (ad 0)), (1, .int p1)] := hl
  have hP : va_P D vwCl (WX cI ad f lo hi T Dv C) s.heap := hP
  have fl49 := hts (.fieldLink RX1 49 "DoorBench" "spans" "LDoorBench$Spans;") (by decide +kernel)
  have fl141 := hts (.fieldLink RX1 141 "DoorBench" "ticks" "I") (by decide +kernel)
  have inX1 : ∀ w ∈ wsX10, w ∈ wsX1_lookBackTo := by decide +kernel
  obtain ⟨hI0, hId, hIr, hIs, hIc⟩ := id hI
  refine lv_aload_n hx hb dX1_lookBackTo_0 rfl (lv_at hl 0 rfl) ?_
  refine va_get (D := D) (ci := 1) (v := .int T) (C := RX1) (T := TX1) (N := 16) hx hb hts inX1 hown hK hP 0 rfl rfl 13 (by decide) fl141 (fun _ h9 => h9) rfl dX1_lookBackTo_1 ?_
  refine c_iconst hx hb dX1_lookBackTo_4 (by decide) (fun v4 i4 => ?_)
  refine c_isub hx hb dX1_lookBackTo_5 (by omega) (fun v5 i5 => ?_)
  refine lv_istore_n (lv' := [(2, .int v5), (0, .ref (ad 0)), (1, .int p1)]) hx hb dX1_lookBackTo_6 rfl hl (by decide) rfl (fun ls hl => ?_)
  have HL7 : ∀ (n : Nat) (t : Nat) (x2 : Int32) (lo1 : Nat → Int32) (hi1 : Nat → Int32) (H : Heap) (locs : List Loc) (ls : Array Slot), (x2.toInt = (t : Int) - 1) → (k0 ≤ t ∧ t ≤ Tn) → (t + 1 ≤ n) → (∀ j, t ≤ j → j ≤ Tn → Tt (rwX lo1 hi1 j) (Trv f Tn Dn Cn (Tn - j)) ∧ bh (rwX lo1 hi1 j) 50000) → (∀ j, j < 3 * t → lo1 j = lo j ∧ hi1 j = hi j) → va_P D vwCl (WX cI ad f lo1 hi1 T Dv C) H → va_D A (WX cI ad f lo1 hi1 T Dv C) → va_S A s.heap H locs → lv_has ls 3 [(0, .ref (ad 0)), (1, .int p1), (2, .int x2)] → W p l e ({ frames := 4, cells := 0, slots := 0, locals := 93 } : Room) s m [.ref (ad 0), .int p1].toArray below meth c H locs 0 0 (MQ below (va_Qv (fun (u : (Nat → Int32) × (Nat → Int32)) => (∀ j, k0 ≤ j → j ≤ Tn → Tt (rwX u.1 u.2 j) (Trv f Tn Dn Cn (Tn - j)) ∧ bh (rwX u.1 u.2 j) 50000) ∧ ∀ j, j < 3 * k0 → u.1 j = lo j ∧ u.2 j = hi j) (cB D [(cI, .int)] A (fun u : (Nat → Int32) × (Nat → Int32) => (WX cI ad f u.1 u.2 T Dv C))) A) [.ref (ad 0), .int p1].toArray s 0 0 A) (F0 m 7 ls []) := by
    intro n
    induction n with
    | zero => intro t x2 lo1 hi1 H locs ls hx2 ht hms hdone hold; exact absurd hms (by omega)
    | succ n ih7 =>
      intro t x2 lo1 hi1 H locs ls hx2 ht hms hdone hold hP hD hS hl
      refine lv_iload_n hx hb dX1_lookBackTo_7 rfl (lv_at hl 2 rfl) ?_
      refine lv_iload_n hx hb dX1_lookBackTo_8 rfl (lv_at hl 1 rfl) ?_
      refine c_icmp_lt (tgt := 47) hx hb dX1_lookBackTo_9 (by decide) (fun c9 => ?_) (fun c9 => ?_)
      · skip
        exact c_rv (lo1, hi1) hx hb hr hlocks hK hP hD hS dX1_lookBackTo_47 (by
                have htk : t = k0 := by omega
                subst htk
                exact ⟨hdone, hold⟩)
      · skip
        obtain ⟨k, rfl⟩ : ∃ k, t = k + 1 := ⟨t - 1, by omega⟩
        obtain ⟨hTy, hby⟩ := hdone (k + 1) (by omega) (by omega)
        obtain ⟨hTk0, hbk0⟩ := hrw k (by omega)
        have eo : rwX lo1 hi1 k = rwX lo hi k := rw_keep (fun j h1 h2 => hold j (by omega))
        have hcb := crow_bd (mr := 0) (but := -1) hI (show k < Tn by omega) (by omega) (by omega) Dn (Nat.le_refl _)
        refine lv_aload_n hx hb dX1_lookBackTo_12 rfl (lv_at hl 0 rfl) ?_
        refine lv_iload_n hx hb dX1_lookBackTo_13 rfl (lv_at hl 2 rfl) ?_
        refine c_iconst hx hb dX1_lookBackTo_14 (by decide) (fun v14 i14 => ?_)
        refine c_iconst hx hb dX1_lookBackTo_15 (by decide) (fun v15 i15 => ?_)
        refine c_wvv (As := [.int x2, .int v14, .int v15]) (ci := 1) (q0 := 0) (kX1_gatherChange l D cI ad f lo1 hi1 T Dv C Tn Dn Cn x2 v14 v15 (k) hT hDv hC hI (by omega) (by omega) (by omega)) ⟨hx, hb, hml, hown, hts⟩ (cwV 3 hts gX1_lookBackTo_X1_gatherChange rfl rfl rfl (by decide +kernel) ⟨Nat.le_of_ble_eq_true rfl, Nat.le_of_ble_eq_true rfl⟩) hK hP hD hS hA rfl rfl rfl rfl hl.1 rfl (Nat.le_of_ble_eq_true rfl) dX1_lookBackTo_16 ⟨Nat.zero_le _, Nat.zero_le _⟩ (fun u16 H locs q16 hP hD hS => ?_)
        try dsimp only at q16
        have hP : va_P D vwCl (WX cI ad f u16.1 u16.2 T Dv C) H := hP
        have hD : va_D A (WX cI ad f u16.1 u16.2 T Dv C) := hD
        rw [i14, i15] at q16
        have ek : rwX u16.1 u16.2 k = rwX lo hi k := (rw_keep (fun j h1 h2 => q16.2 j (by omega))).trans eo
        have ey : rwX u16.1 u16.2 (k + 1) = rwX lo1 hi1 (k + 1) := rw_keep (fun j h1 h2 => q16.2 j (by omega))
        have hc61 : bd (rwX u16.1 u16.2 61) 360 := by have w1 := q16.1; have w2 := hcb.2; unfold eq6 at w1; unfold bd at *; omega
        refine lv_aload_n hx hb dX1_lookBackTo_19 rfl (lv_at hl 0 rfl) ?_
        refine va_get (D := D) (ci := 1) (v := .ref (ad 13)) (C := RX1) (T := TX1) (N := 16) hx hb hts inX1 hown hK hP 0 rfl rfl 12 (by decide) fl49 (fun _ h9 => h9) rfl dX1_lookBackTo_20 ?_
        refine lv_iload_n hx hb dX1_lookBackTo_23 rfl (lv_at hl 2 rfl) ?_
        refine lv_iload_n hx hb dX1_lookBackTo_24 rfl (lv_at hl 2 rfl) ?_
        refine c_iconst hx hb dX1_lookBackTo_25 (by decide) (fun v25 i25 => ?_)
        refine c_iadd hx hb dX1_lookBackTo_26 (by omega) (fun v26 i26 => ?_)
        refine c_bipush hx hb dX1_lookBackTo_27 (by decide) (fun v27 i27 => ?_)
        refine c_cvv (As := [.int x2, .int v26, .int v27]) (ci := 0) (q0 := 0) (wr := [((ad 0), .inr (1, [.ref (ad 1), .ref (ad 2), .ref (ad 3), .ref (ad 4), .ref (ad 5), .ref (ad 6), .ref (ad 7), .ref (ad 8), .ref (ad 9), .ref (ad 10), .ref (ad 11), .ref (ad 12), .ref (ad 13), .int T, .int Dv, .int C])), ((ad 1), .inl (cI, 6, .inl (f 0))), ((ad 2), .inl (cI, 6, .inl (f 1))), ((ad 3), .inl (cI, 6, .inl (f 2))), ((ad 4), .inl (cI, 6, .inl (f 3))), ((ad 5), .inl (cI, 360, .inl (f 4))), ((ad 6), .inl (cI, 360, .inl (f 5))), ((ad 7), .inl (cI, 2, .inl (f 6))), ((ad 8), .inl (cI, 2, .inl (f 7))), ((ad 9), .inl (cI, 20, .inl (f 8))), ((ad 10), .inl (cI, 20, .inl (f 9))), ((ad 11), .inl (cI, 20, .inl (f 10))), ((ad 12), .inl (cI, 20, .inl (f 11)))]) (wF := (fun uZ => (WX cI ad f uZ.1 uZ.2 T Dv C))) (kX0_cutByDifference l D cI ad u16.1 u16.2 x2 v26 v27 (k) (k + 1) (61) (by omega) (by omega) (by omega) (by omega) (by rw [ey]; exact bh_bd hby (by omega)) (by unfold bd at *; omega)) ⟨hx, hb, hml, hown, hts⟩ (cwV 3 hts gX1_lookBackTo_X0_cutByDifference rfl rfl rfl (by decide +kernel) ⟨Nat.le_of_ble_eq_true rfl, Nat.le_of_ble_eq_true rfl⟩) hK hP hD hS hA [13, 14, 15] [0, 1, 2, 3, 4, 5, 6, 7, 8, 9, 10, 11, 12] [0, 1, 2, 3, 4, 5, 6, 7, 8, 9, 10, 11, 12, 13, 14, 15] rfl (by decide) rfl (by decide) (by decide) (by decide) (fun _ => rfl) rfl rfl rfl rfl hl.1 rfl (Nat.le_of_ble_eq_true rfl) dX1_lookBackTo_29 ⟨Nat.zero_le _, Nat.zero_le _⟩ (fun u29 H locs q29 hP hD hS => ?_)
        try dsimp only at q29
        have hP : va_P D vwCl (WX cI ad f u29.1 u29.2 T Dv C) H := hP
        have hD : va_D A (WX cI ad f u29.1 u29.2 T Dv C) := hD
        rw [ek, ey] at q29
        have hcz := q29.1
        have hbz : bd (rwX u29.1 u29.2 k) 100000000 := by
          have w := cd6_bd (B := 50000) hcz (bh_bd hbk0 (by omega)) (bh_bd hby (by omega)) (by unfold bd at *; omega)
          unfold bd at *; omega
        refine lv_aload_n hx hb dX1_lookBackTo_32 rfl (lv_at hl 0 rfl) ?_
        refine va_get (D := D) (ci := 1) (v := .ref (ad 13)) (C := RX1) (T := TX1) (N := 16) hx hb hts inX1 hown hK hP 0 rfl rfl 12 (by decide) fl49 (fun _ h9 => h9) rfl dX1_lookBackTo_33 ?_
        refine lv_iload_n hx hb dX1_lookBackTo_36 rfl (lv_at hl 2 rfl) ?_
        refine c_cvi (As := [.int x2]) (ci := 0) (q0 := 0) (wr := [((ad 0), .inr (1, [.ref (ad 1), .ref (ad 2), .ref (ad 3), .ref (ad 4), .ref (ad 5), .ref (ad 6), .ref (ad 7), .ref (ad 8), .ref (ad 9), .ref (ad 10), .ref (ad 11), .ref (ad 12), .ref (ad 13), .int T, .int Dv, .int C])), ((ad 1), .inl (cI, 6, .inl (f 0))), ((ad 2), .inl (cI, 6, .inl (f 1))), ((ad 3), .inl (cI, 6, .inl (f 2))), ((ad 4), .inl (cI, 6, .inl (f 3))), ((ad 5), .inl (cI, 360, .inl (f 4))), ((ad 6), .inl (cI, 360, .inl (f 5))), ((ad 7), .inl (cI, 2, .inl (f 6))), ((ad 8), .inl (cI, 2, .inl (f 7))), ((ad 9), .inl (cI, 20, .inl (f 8))), ((ad 10), .inl (cI, 20, .inl (f 9))), ((ad 11), .inl (cI, 20, .inl (f 10))), ((ad 12), .inl (cI, 20, .inl (f 11)))]) (wF := (fun uZ => (WX cI ad f uZ.1 uZ.2 T Dv C))) (kX0_tighten l D cI ad u29.1 u29.2 x2 (k) (by omega) (by omega) hbz) ⟨hx, hb, hml, hown, hts⟩ (cwV 1 hts gX1_lookBackTo_X0_tighten rfl rfl rfl (by decide +kernel) ⟨Nat.le_of_ble_eq_true rfl, Nat.le_of_ble_eq_true rfl⟩) hK hP hD hS hA [13, 14, 15] [0, 1, 2, 3, 4, 5, 6, 7, 8, 9, 10, 11, 12] [0, 1, 2, 3, 4, 5, 6, 7, 8, 9, 10, 11, 12, 13, 14, 15] rfl (by decide) rfl (by decide) (by decide) (by decide) (fun _ => rfl) rfl rfl rfl rfl hl.1 rfl (Nat.le_of_ble_eq_true rfl) dX1_lookBackTo_37 ⟨Nat.zero_le _, Nat.zero_le _⟩ (fun r37 u37 H locs q37 hP hD hS => ?_)
        try dsimp only at q37
        have hP : va_P D vwCl (WX cI ad f u37.1 u37.2 T Dv C) H := hP
        have hD : va_D A (WX cI ad f u37.1 u37.2 T Dv C) := hD
        refine lv_pop hx hb dX1_lookBackTo_40 rfl ?_
        refine c_iinc (k := 2) hx hb (fun v41 => [(2, .int v41), (0, .ref (ad 0)), (1, .int p1)]) dX1_lookBackTo_41 hl rfl (by decide) (by omega) (by decide) (fun _ => rfl) (fun v41 ls i41 hl => ?_)
        have hl : lv_has ls 3 [(2, .int v41), (0, .ref (ad 0)), (1, .int p1)] := hl
        refine lv_goto (tgt := 7) hx hb dX1_lookBackTo_44 (by decide) ?_
        exact ih7 k v41 u37.1 u37.2 _ _ _ (by omega) (by omega) (by omega) (fun j h1 h2 => by
                      rcases (show j = k ∨ k + 1 ≤ j by omega) with rfl | hj
                      · have hT := Trv_1 hI (show j + 1 ≤ Tn by omega) hTk0 hTy q16.1 hcz q37.1
                        exact ⟨hT, Tt_bh (r := rwX lo hi j) hT (fun a b h => ⟨(hTk0.2 a b).mpr (by have w := Trv_Fw h; rw [show Tn - (Tn - j) = j by omega] at w; exact w), alw_0 _ (Fw_alw (Trv_Fw h))⟩) (by unfold bh at hbk0; omega)⟩
                      · have e1 : rwX u37.1 u37.2 j = rwX lo1 hi1 j := rw_keep (fun i h3 h4 => ⟨(q37.2.1 i (by omega)).1.trans ((q29.2 i (by omega)).1.trans (q16.2 i (by omega)).1), (q37.2.1 i (by omega)).2.trans ((q29.2 i (by omega)).2.trans (q16.2 i (by omega)).2)⟩)
                        rw [e1]; exact hdone j hj h2) (fun i hi => ⟨(q37.2.1 i (by omega)).1.trans ((q29.2 i (by omega)).1.trans ((q16.2 i (by omega)).1.trans (hold i (by omega)).1)), (q37.2.1 i (by omega)).2.trans ((q29.2 i (by omega)).2.trans ((q16.2 i (by omega)).2.trans (hold i (by omega)).2))⟩) hP hD hS (lv_sub hl [1, 2, 0] rfl)
  exact HL7 (Tn + 1) Tn v5 lo hi _ _ _ (by omega) (by omega) (by omega) (fun j h1 h2 => by
        have e : j = Tn := by omega
        subst e
        rw [show j - j = 0 by omega]; exact hrw j h2) (fun j _ => ⟨rfl, rfl⟩) hP hD hS (lv_sub hl [1, 2, 0] rfl)
set_option maxHeartbeats 4000000 in
set_option maxRecDepth 100000 in
theorem kX1_firstAbove (l : Launch) (D : va_G) (cI : ClassId) (ad : Nat → Nat) (f : Nat → Nat → Int32) (lo : Nat → Int32) (hi : Nat → Int32) (T : Int32) (Dv : Int32) (C : Int32) (Tn : Nat) (Dn : Nat) (Cn : Nat) (p1 : Int32) (p2 : Int32) (wh : Nat) (hT : T.toInt = (Tn : Int)) (hDv : Dv.toInt = (Dn : Int)) (hC : C.toInt = (Cn : Int)) (hI : Inv f Tn Dn Cn) (hwh0 : (p2.toInt = 0 ∧ wh = 4) ∨ (p2.toInt ≠ 0 ∧ wh = 5)) : MI l yX1_firstAbove wsX1_firstAbove ({ frames := 6, cells := 0, slots := 0, locals := 136 } : Room) D [(cI, .int)] [.ref (ad 0), .int p1, .int p2] (WX cI ad f lo hi T Dv C) (fun u : (Nat → Int32) × (Nat → Int32) => (WX cI ad f u.1 u.2 T Dv C)) (fun (r : Int32) (_ : (Nat → Int32) × (Nat → Int32)) => FA f Tn Dn Cn p1.toInt r.toInt wh) := by
  refine c_ent (cc := cX1_firstAbove) (maxL := 5) (ret := (some .int)) (Qc := fun A => va_Qi (fun (r : Int32) (_ : (Nat → Int32) × (Nat → Int32)) => FA f Tn Dn Cn p1.toInt r.toInt wh) (cB D [(cI, .int)] A (fun u : (Nat → Int32) × (Nat → Int32) => (WX cI ad f u.1 u.2 T Dv C))) A) (by decide) rfl (Nat.le_of_ble_eq_true rfl) ?_
  intro p e s m below meth c A ls hx hb hr hlocks hts hown hml hK hP hD hA hl
  have hS : va_S A s.heap s.heap [] := va_S.rf
  have hl : lv_has ls 5 [(0, .ref (ad 0)), (1, .int p1), (2, .int p2)] := hl
  have hP : va_P D vwCl (WX cI ad f lo hi T Dv C) s.heap := hP
  have fl49 := hts (.fieldLink RX1 49 "DoorBench" "spans" "LDoorBench$Spans;") (by decide +kernel)
  have fl141 := hts (.fieldLink RX1 141 "DoorBench" "ticks" "I") (by decide +kernel)
  have inX1 : ∀ w ∈ wsX10, w ∈ wsX1_firstAbove := by decide +kernel
  obtain ⟨hI0, hId, hIr, hIs, hIc⟩ := id hI
  refine lv_iload_n hx hb dX1_firstAbove_0 rfl (lv_at hl 1 rfl) ?_
  refine c_iconst hx hb dX1_firstAbove_1 (by decide) (fun v1 i1 => ?_)
  refine c_ldc (n := 99999) hx hb hown (hts (.constant RX1 198 (99999)) (by decide +kernel)) dX1_firstAbove_2 (by decide) (fun v2 i2 => ?_)
  refine c_cpi (As := [.int p1, .int v1, .int v2]) (kX1_within l D cI p1 v1 v2) ⟨hx, hb, hml, hown, hts⟩ (va_cwS 3 hts gX1_firstAbove_X1_within rfl rfl rfl (by decide +kernel) ⟨Nat.le_of_ble_eq_true rfl, Nat.le_of_ble_eq_true rfl⟩) hK hP hS hA rfl hl.1 rfl (Nat.le_of_ble_eq_true rfl) dX1_firstAbove_4 ⟨Nat.zero_le _, Nat.zero_le _⟩ (fun r4 H locs q4 hP hS => ?_)
  try dsimp only at q4
  refine c_if_eq (tgt := 19) hx hb dX1_firstAbove_7 (by decide) (fun c7 => ?_) (fun c7 => ?_)
  · skip
    refine c_iconst hx hb dX1_firstAbove_19 (by decide) (fun v19 i19 => ?_)
    exact c_ri (lo, hi) hx hb hr hlocks hK hP hD hS dX1_firstAbove_20 (Or.inl ⟨Or.inl (by omega), by omega⟩)
  · skip
    refine lv_aload_n hx hb dX1_firstAbove_10 rfl (lv_at hl 0 rfl) ?_
    refine c_iconst hx hb dX1_firstAbove_11 (by decide) (fun v11 i11 => ?_)
    refine c_wvi (As := [.int v11]) (ci := 1) (q0 := 0) (kX1_lookAhead l D cI ad f lo hi T Dv C Tn Dn Cn v11 hT hDv hC hI (by omega)) ⟨hx, hb, hml, hown, hts⟩ (cwV 1 hts gX1_firstAbove_X1_lookAhead rfl rfl rfl (by decide +kernel) ⟨Nat.le_of_ble_eq_true rfl, Nat.le_of_ble_eq_true rfl⟩) hK hP hD hS hA rfl rfl rfl rfl hl.1 rfl (Nat.le_of_ble_eq_true rfl) dX1_firstAbove_12 ⟨Nat.zero_le _, Nat.zero_le _⟩ (fun r12 u12 H locs q12 hP hD hS => ?_)
    try dsimp only at q12
    have hP : va_P D vwCl (WX cI ad f u12.1 u12.2 T Dv C) H := hP
    have hD : va_D A (WX cI ad f u12.1 u12.2 T Dv C) := hD
    refine c_iconst hx hb dX1_firstAbove_15 (by decide) (fun v15 i15 => ?_)
    refine c_icmp_eq (tgt := 21) hx hb dX1_firstAbove_16 (by decide) (fun c16 => ?_) (fun c16 => ?_)
    · skip
      have hrw : (∀ j, j ≤ Tn → Tt (rwX u12.1 u12.2 j) (Fw f Dn Cn 0 j) ∧ bh (rwX u12.1 u12.2 j) 50000) := by have w := LA_rows q12 (by omega); rw [i11] at w; exact w
      refine lv_aload_n hx hb dX1_firstAbove_21 rfl (lv_at hl 0 rfl) ?_
      refine c_iconst hx hb dX1_firstAbove_22 (by decide) (fun v22 i22 => ?_)
      refine c_wvv (As := [.int v22]) (ci := 1) (q0 := 0) (kX1_lookBackTo l D cI ad f u12.1 u12.2 T Dv C Tn Dn Cn v22 0 hT hDv hC hI (by omega) (by omega) hrw) ⟨hx, hb, hml, hown, hts⟩ (cwV 1 hts gX1_firstAbove_X1_lookBackTo rfl rfl rfl (by decide +kernel) ⟨Nat.le_of_ble_eq_true rfl, Nat.le_of_ble_eq_true rfl⟩) hK hP hD hS hA rfl rfl rfl rfl hl.1 rfl (Nat.le_of_ble_eq_true rfl) dX1_firstAbove_23 ⟨Nat.zero_le _, Nat.zero_le _⟩ (fun u23 H locs q23 hP hD hS => ?_)
      try dsimp only at q23
      have hP : va_P D vwCl (WX cI ad f u23.1 u23.2 T Dv C) H := hP
      have hD : va_D A (WX cI ad f u23.1 u23.2 T Dv C) := hD
      refine c_iconst hx hb dX1_firstAbove_26 (by decide) (fun v26 i26 => ?_)
      refine lv_istore_n (lv' := [(3, .int v26), (0, .ref (ad 0)), (1, .int p1), (2, .int p2)]) hx hb dX1_firstAbove_27 rfl hl (by decide) rfl (fun ls hl => ?_)
      have HL28 : ∀ (n : Nat) (t : Nat) (x3 : Int32) (H : Heap) (locs : List Loc) (ls : Array Slot), (x3.toInt = (t : Int)) → (t ≤ Tn + 1) → (Tn + 2 ≤ t + n) → (∀ j, j < t → rwX u23.1 u23.2 j wh ≤ p1.toInt) → va_P D vwCl (WX cI ad f u23.1 u23.2 T Dv C) H → va_D A (WX cI ad f u23.1 u23.2 T Dv C) → va_S A s.heap H locs → lv_has ls 5 [(0, .ref (ad 0)), (1, .int p1), (2, .int p2), (3, .int x3)] → W p l e ({ frames := 6, cells := 0, slots := 0, locals := 136 } : Room) s m [.ref (ad 0), .int p1, .int p2].toArray below meth c H locs 0 0 (MQ below (va_Qi (fun (r : Int32) (_ : (Nat → Int32) × (Nat → Int32)) => FA f Tn Dn Cn p1.toInt r.toInt wh) (cB D [(cI, .int)] A (fun u : (Nat → Int32) × (Nat → Int32) => (WX cI ad f u.1 u.2 T Dv C))) A) [.ref (ad 0), .int p1, .int p2].toArray s 0 0 A) (F0 m 28 ls []) := by
        intro n
        induction n with
        | zero => intro t x3 H locs ls hx3 ht hms hle; exact absurd hms (by omega)
        | succ n ih28 =>
          intro t x3 H locs ls hx3 ht hms hle hP hD hS hl
          refine lv_iload_n hx hb dX1_firstAbove_28 rfl (lv_at hl 3 rfl) ?_
          refine lv_aload_n hx hb dX1_firstAbove_29 rfl (lv_at hl 0 rfl) ?_
          refine va_get (D := D) (ci := 1) (v := .int T) (C := RX1) (T := TX1) (N := 16) hx hb hts inX1 hown hK hP 0 rfl rfl 13 (by decide) fl141 (fun _ h9 => h9) rfl dX1_firstAbove_30 ?_
          refine c_icmp_gt (tgt := 77) hx hb dX1_firstAbove_33 (by decide) (fun c33 => ?_) (fun c33 => ?_)
          · skip
            refine c_iconst hx hb dX1_firstAbove_77 (by decide) (fun v77 i77 => ?_)
            exact c_ri (u23.1, u23.2) hx hb hr hlocks hK hP hD hS dX1_firstAbove_78 (Or.inr ⟨by omega, (fun j => rwX u23.1 u23.2 j), fun j hj => (q23.1 j (by omega) hj).1, Or.inr ⟨by omega, fun j hj => hle j (by omega)⟩⟩)
          · skip
            refine lv_iload_n hx hb dX1_firstAbove_36 rfl (lv_at hl 2 rfl) ?_
            refine c_if_eq (tgt := 52) hx hb dX1_firstAbove_37 (by decide) (fun c37 => ?_) (fun c37 => ?_)
            · skip
              have hwh : wh = 4 := by omega
              refine lv_aload_n hx hb dX1_firstAbove_52 rfl (lv_at hl 0 rfl) ?_
              refine va_get (D := D) (ci := 1) (v := .ref (ad 13)) (C := RX1) (T := TX1) (N := 16) hx hb hts inX1 hown hK hP 0 rfl rfl 12 (by decide) fl49 (fun _ h9 => h9) rfl dX1_firstAbove_53 ?_
              refine lv_iload_n hx hb dX1_firstAbove_56 rfl (lv_at hl 3 rfl) ?_
              refine c_iconst hx hb dX1_firstAbove_57 (by decide) (fun v57 i57 => ?_)
              refine c_cvi (As := [.int x3, .int v57]) (ci := 0) (q0 := 0) (wr := [((ad 0), .inr (1, [.ref (ad 1), .ref (ad 2), .ref (ad 3), .ref (ad 4), .ref (ad 5), .ref (ad 6), .ref (ad 7), .ref (ad 8), .ref (ad 9), .ref (ad 10), .ref (ad 11), .ref (ad 12), .ref (ad 13), .int T, .int Dv, .int C])), ((ad 1), .inl (cI, 6, .inl (f 0))), ((ad 2), .inl (cI, 6, .inl (f 1))), ((ad 3), .inl (cI, 6, .inl (f 2))), ((ad 4), .inl (cI, 6, .inl (f 3))), ((ad 5), .inl (cI, 360, .inl (f 4))), ((ad 6), .inl (cI, 360, .inl (f 5))), ((ad 7), .inl (cI, 2, .inl (f 6))), ((ad 8), .inl (cI, 2, .inl (f 7))), ((ad 9), .inl (cI, 20, .inl (f 8))), ((ad 10), .inl (cI, 20, .inl (f 9))), ((ad 11), .inl (cI, 20, .inl (f 10))), ((ad 12), .inl (cI, 20, .inl (f 11)))]) (wF := (fun uZ => (WX cI ad f u23.1 u23.2 T Dv C))) (kX0_low l D cI ad u23.1 u23.2 x3 v57 (t) (2) (by omega) (by omega) (by omega) (by omega)) ⟨hx, hb, hml, hown, hts⟩ (cwV 2 hts gX1_firstAbove_X0_low rfl rfl rfl (by decide +kernel) ⟨Nat.le_of_ble_eq_true rfl, Nat.le_of_ble_eq_true rfl⟩) hK hP hD hS hA [13, 14, 15] [0, 1, 2, 3, 4, 5, 6, 7, 8, 9, 10, 11, 12] [0, 1, 2, 3, 4, 5, 6, 7, 8, 9, 10, 11, 12, 13, 14, 15] rfl (by decide) rfl (by decide) (by decide) (by decide) (fun _ => rfl) rfl rfl rfl rfl hl.1 rfl (Nat.le_of_ble_eq_true rfl) dX1_firstAbove_58 ⟨Nat.zero_le _, Nat.zero_le _⟩ (fun r58 u58 H locs q58 hP hD hS => ?_)
              try dsimp only at q58
              have hP : va_P D vwCl (WX cI ad f u23.1 u23.2 T Dv C) H := hP
              have hD : va_D A (WX cI ad f u23.1 u23.2 T Dv C) := hD
              have y58 : r58.toInt = rwX u23.1 u23.2 t 4 := by rw [q58]; rfl
              refine lv_istore (lv' := [(4, .int r58), (0, .ref (ad 0)), (1, .int p1), (2, .int p2), (3, .int x3)]) hx hb dX1_firstAbove_61 hl (by decide) rfl (fun ls hl => ?_)
              refine lv_iload hx hb dX1_firstAbove_63 (lv_at hl 0 rfl) ?_
              refine lv_iload_n hx hb dX1_firstAbove_65 rfl (lv_at hl 2 rfl) ?_
              refine c_icmp_le (tgt := 71) hx hb dX1_firstAbove_66 (by decide) (fun c66 => ?_) (fun c66 => ?_)
              · skip
                refine c_iinc (k := 4) hx hb (fun v71 => [(3, .int v71), (4, .int r58), (0, .ref (ad 0)), (1, .int p1), (2, .int p2)]) dX1_firstAbove_71 hl rfl (by decide) (by omega) (by decide) (fun _ => rfl) (fun v71 ls i71 hl => ?_)
                have hl : lv_has ls 5 [(3, .int v71), (4, .int r58), (0, .ref (ad 0)), (1, .int p1), (2, .int p2)] := hl
                refine lv_goto (tgt := 28) hx hb dX1_firstAbove_74 (by decide) ?_
                exact ih28 (t + 1) v71 _ _ _ (by omega) (by omega) (by omega) (fun j hj => by
                                  rcases (show j < t ∨ j = t by omega) with h | rfl
                                  · exact hle j h
                                  · rw [hwh]; omega) hP hD hS (lv_sub hl [2, 3, 4, 0] rfl)
              · skip
                refine lv_iload_n hx hb dX1_firstAbove_69 rfl (lv_at hl 4 rfl) ?_
                exact c_ri (u23.1, u23.2) hx hb hr hlocks hK hP hD hS dX1_firstAbove_70 (Or.inr ⟨by omega, (fun j => rwX u23.1 u23.2 j), fun j hj => (q23.1 j (by omega) hj).1, Or.inl ⟨t, by omega, hx3, by show p1.toInt < rwX u23.1 u23.2 t wh; rw [hwh]; omega, hle⟩⟩)
            · skip
              have hwh : wh = 5 := by omega
              refine lv_aload_n hx hb dX1_firstAbove_40 rfl (lv_at hl 0 rfl) ?_
              refine va_get (D := D) (ci := 1) (v := .ref (ad 13)) (C := RX1) (T := TX1) (N := 16) hx hb hts inX1 hown hK hP 0 rfl rfl 12 (by decide) fl49 (fun _ h9 => h9) rfl dX1_firstAbove_41 ?_
              refine lv_iload_n hx hb dX1_firstAbove_44 rfl (lv_at hl 3 rfl) ?_
              refine c_iconst hx hb dX1_firstAbove_45 (by decide) (fun v45 i45 => ?_)
              refine c_cvi (As := [.int x3, .int v45]) (ci := 0) (q0 := 0) (wr := [((ad 0), .inr (1, [.ref (ad 1), .ref (ad 2), .ref (ad 3), .ref (ad 4), .ref (ad 5), .ref (ad 6), .ref (ad 7), .ref (ad 8), .ref (ad 9), .ref (ad 10), .ref (ad 11), .ref (ad 12), .ref (ad 13), .int T, .int Dv, .int C])), ((ad 1), .inl (cI, 6, .inl (f 0))), ((ad 2), .inl (cI, 6, .inl (f 1))), ((ad 3), .inl (cI, 6, .inl (f 2))), ((ad 4), .inl (cI, 6, .inl (f 3))), ((ad 5), .inl (cI, 360, .inl (f 4))), ((ad 6), .inl (cI, 360, .inl (f 5))), ((ad 7), .inl (cI, 2, .inl (f 6))), ((ad 8), .inl (cI, 2, .inl (f 7))), ((ad 9), .inl (cI, 20, .inl (f 8))), ((ad 10), .inl (cI, 20, .inl (f 9))), ((ad 11), .inl (cI, 20, .inl (f 10))), ((ad 12), .inl (cI, 20, .inl (f 11)))]) (wF := (fun uZ => (WX cI ad f u23.1 u23.2 T Dv C))) (kX0_high l D cI ad u23.1 u23.2 x3 v45 (t) (2) (by omega) (by omega) (by omega) (by omega)) ⟨hx, hb, hml, hown, hts⟩ (cwV 2 hts gX1_firstAbove_X0_high rfl rfl rfl (by decide +kernel) ⟨Nat.le_of_ble_eq_true rfl, Nat.le_of_ble_eq_true rfl⟩) hK hP hD hS hA [13, 14, 15] [0, 1, 2, 3, 4, 5, 6, 7, 8, 9, 10, 11, 12] [0, 1, 2, 3, 4, 5, 6, 7, 8, 9, 10, 11, 12, 13, 14, 15] rfl (by decide) rfl (by decide) (by decide) (by decide) (fun _ => rfl) rfl rfl rfl rfl hl.1 rfl (Nat.le_of_ble_eq_true rfl) dX1_firstAbove_46 ⟨Nat.zero_le _, Nat.zero_le _⟩ (fun r46 u46 H locs q46 hP hD hS => ?_)
              try dsimp only at q46
              have hP : va_P D vwCl (WX cI ad f u23.1 u23.2 T Dv C) H := hP
              have hD : va_D A (WX cI ad f u23.1 u23.2 T Dv C) := hD
              have y46 : r46.toInt = rwX u23.1 u23.2 t 5 := by rw [q46]; rfl
              refine lv_goto (tgt := 61) hx hb dX1_firstAbove_49 (by decide) ?_
              refine lv_istore (lv' := [(4, .int r46), (0, .ref (ad 0)), (1, .int p1), (2, .int p2), (3, .int x3)]) hx hb dX1_firstAbove_61 hl (by decide) rfl (fun ls hl => ?_)
              refine lv_iload hx hb dX1_firstAbove_63 (lv_at hl 0 rfl) ?_
              refine lv_iload_n hx hb dX1_firstAbove_65 rfl (lv_at hl 2 rfl) ?_
              refine c_icmp_le (tgt := 71) hx hb dX1_firstAbove_66 (by decide) (fun c66_2 => ?_) (fun c66_2 => ?_)
              · skip
                refine c_iinc (k := 4) hx hb (fun v71_2 => [(3, .int v71_2), (4, .int r46), (0, .ref (ad 0)), (1, .int p1), (2, .int p2)]) dX1_firstAbove_71 hl rfl (by decide) (by omega) (by decide) (fun _ => rfl) (fun v71_2 ls i71_2 hl => ?_)
                have hl : lv_has ls 5 [(3, .int v71_2), (4, .int r46), (0, .ref (ad 0)), (1, .int p1), (2, .int p2)] := hl
                refine lv_goto (tgt := 28) hx hb dX1_firstAbove_74 (by decide) ?_
                exact ih28 (t + 1) v71_2 _ _ _ (by omega) (by omega) (by omega) (fun j hj => by
                                  rcases (show j < t ∨ j = t by omega) with h | rfl
                                  · exact hle j h
                                  · rw [hwh]; omega) hP hD hS (lv_sub hl [2, 3, 4, 0] rfl)
              · skip
                refine lv_iload_n hx hb dX1_firstAbove_69 rfl (lv_at hl 4 rfl) ?_
                exact c_ri (u23.1, u23.2) hx hb hr hlocks hK hP hD hS dX1_firstAbove_70 (Or.inr ⟨by omega, (fun j => rwX u23.1 u23.2 j), fun j hj => (q23.1 j (by omega) hj).1, Or.inl ⟨t, by omega, hx3, by show p1.toInt < rwX u23.1 u23.2 t wh; rw [hwh]; omega, hle⟩⟩)
      exact HL28 (Tn + 2) 0 v26 _ _ _ (by omega) (by omega) (by omega) (fun j h => absurd h (by omega)) hP hD hS (lv_sub hl [1, 2, 3, 0] rfl)
    · skip
      refine c_iconst hx hb dX1_firstAbove_19 (by decide) (fun v19_2 i19_2 => ?_)
      exact c_ri (u12.1, u12.2) hx hb hr hlocks hK hP hD hS dX1_firstAbove_20 (Or.inl ⟨Or.inr (by have w := LA_no q12 (by omega); rw [i11] at w; exact w), by omega⟩)
set_option maxHeartbeats 4000000 in
set_option maxRecDepth 100000 in
theorem kX1_leastRest (l : Launch) (D : va_G) (cI : ClassId) (ad : Nat → Nat) (f : Nat → Nat → Int32) (lo : Nat → Int32) (hi : Nat → Int32) (T : Int32) (Dv : Int32) (C : Int32) (Tn : Nat) (Dn : Nat) (Cn : Nat) (p1 : Int32) (p2 : Int32) (t : Nat) (w : Nat) (hT : T.toInt = (Tn : Int)) (hDv : Dv.toInt = (Dn : Int)) (hC : C.toInt = (Cn : Int)) (hI : Inv f Tn Dn Cn) (ht : p1.toInt = (t : Int)) (hw : p2.toInt = (w : Int)) (htn : t < 60) (hw2 : w ≤ 2) (hb1 : bd (rwX lo hi (t + 1)) 1000000) (hb2 : bd (rwX lo hi t) 1000000) (hb3 : bd (rwX lo hi 61) 1000000) : MI l yX1_leastRest wsX1_leastRest ({ frames := 2, cells := 0, slots := 0, locals := 43 } : Room) D [(cI, .int)] [.ref (ad 0), .int p1, .int p2] (WX cI ad f lo hi T Dv C) (fun u : Unit => (WX cI ad f lo hi T Dv C)) (fun (r : Int32) (_ : Unit) => r.toInt = (lo (3 * (t + 1) + w)).toInt - (hi (3 * t + w)).toInt - (hi (3 * 61 + w)).toInt) := by
  refine c_ent (cc := cX1_leastRest) (maxL := 3) (ret := (some .int)) (Qc := fun A => va_Qi (fun (r : Int32) (_ : Unit) => r.toInt = (lo (3 * (t + 1) + w)).toInt - (hi (3 * t + w)).toInt - (hi (3 * 61 + w)).toInt) (cB D [(cI, .int)] A (fun u : Unit => (WX cI ad f lo hi T Dv C))) A) (by decide) rfl (Nat.le_of_ble_eq_true rfl) ?_
  intro p e s m below meth c A ls hx hb hr hlocks hts hown hml hK hP hD hA hl
  have hS : va_S A s.heap s.heap [] := va_S.rf
  have hl : lv_has ls 3 [(0, .ref (ad 0)), (1, .int p1), (2, .int p2)] := hl
  have hP : va_P D vwCl (WX cI ad f lo hi T Dv C) s.heap := hP
  have fl49 := hts (.fieldLink RX1 49 "DoorBench" "spans" "LDoorBench$Spans;") (by decide +kernel)
  have inX1 : ∀ w ∈ wsX10, w ∈ wsX1_leastRest := by decide +kernel
  obtain ⟨hI0, hId, hIr, hIs, hIc⟩ := id hI
  have z1 := bd_at hb1 (k := w) hw2
  have z2 := bd_at hb2 (k := w) hw2
  have z3 := bd_at hb3 (k := w) hw2
  refine lv_aload_n hx hb dX1_leastRest_0 rfl (lv_at hl 0 rfl) ?_
  refine va_get (D := D) (ci := 1) (v := .ref (ad 13)) (C := RX1) (T := TX1) (N := 16) hx hb hts inX1 hown hK hP 0 rfl rfl 12 (by decide) fl49 (fun _ h9 => h9) rfl dX1_leastRest_1 ?_
  refine lv_iload_n hx hb dX1_leastRest_4 rfl (lv_at hl 1 rfl) ?_
  refine c_iconst hx hb dX1_leastRest_5 (by decide) (fun v5 i5 => ?_)
  refine c_iadd hx hb dX1_leastRest_6 (by omega) (fun v6 i6 => ?_)
  refine lv_iload_n hx hb dX1_leastRest_7 rfl (lv_at hl 2 rfl) ?_
  refine c_cvi (As := [.int v6, .int p2]) (ci := 0) (q0 := 0) (wr := [((ad 0), .inr (1, [.ref (ad 1), .ref (ad 2), .ref (ad 3), .ref (ad 4), .ref (ad 5), .ref (ad 6), .ref (ad 7), .ref (ad 8), .ref (ad 9), .ref (ad 10), .ref (ad 11), .ref (ad 12), .ref (ad 13), .int T, .int Dv, .int C])), ((ad 1), .inl (cI, 6, .inl (f 0))), ((ad 2), .inl (cI, 6, .inl (f 1))), ((ad 3), .inl (cI, 6, .inl (f 2))), ((ad 4), .inl (cI, 6, .inl (f 3))), ((ad 5), .inl (cI, 360, .inl (f 4))), ((ad 6), .inl (cI, 360, .inl (f 5))), ((ad 7), .inl (cI, 2, .inl (f 6))), ((ad 8), .inl (cI, 2, .inl (f 7))), ((ad 9), .inl (cI, 20, .inl (f 8))), ((ad 10), .inl (cI, 20, .inl (f 9))), ((ad 11), .inl (cI, 20, .inl (f 10))), ((ad 12), .inl (cI, 20, .inl (f 11)))]) (wF := (fun uZ => (WX cI ad f lo hi T Dv C))) (kX0_low l D cI ad lo hi v6 p2 (t + 1) (w) (by omega) (by omega) (by omega) (by omega)) ⟨hx, hb, hml, hown, hts⟩ (cwV 2 hts gX1_leastRest_X0_low rfl rfl rfl (by decide +kernel) ⟨Nat.le_of_ble_eq_true rfl, Nat.le_of_ble_eq_true rfl⟩) hK hP hD hS hA [13, 14, 15] [0, 1, 2, 3, 4, 5, 6, 7, 8, 9, 10, 11, 12] [0, 1, 2, 3, 4, 5, 6, 7, 8, 9, 10, 11, 12, 13, 14, 15] rfl (by decide) rfl (by decide) (by decide) (by decide) (fun _ => rfl) rfl rfl rfl rfl hl.1 rfl (Nat.le_of_ble_eq_true rfl) dX1_leastRest_8 ⟨Nat.zero_le _, Nat.zero_le _⟩ (fun r8 u8 H locs q8 hP hD hS => ?_)
  try dsimp only at q8
  have hP : va_P D vwCl (WX cI ad f lo hi T Dv C) H := hP
  have hD : va_D A (WX cI ad f lo hi T Dv C) := hD
  have y8 : r8.toInt = (lo (3 * (t + 1) + w)).toInt := by rw [q8]
  refine lv_aload_n hx hb dX1_leastRest_11 rfl (lv_at hl 0 rfl) ?_
  refine va_get (D := D) (ci := 1) (v := .ref (ad 13)) (C := RX1) (T := TX1) (N := 16) hx hb hts inX1 hown hK hP 0 rfl rfl 12 (by decide) fl49 (fun _ h9 => h9) rfl dX1_leastRest_12 ?_
  refine lv_iload_n hx hb dX1_leastRest_15 rfl (lv_at hl 1 rfl) ?_
  refine lv_iload_n hx hb dX1_leastRest_16 rfl (lv_at hl 2 rfl) ?_
  refine c_cvi (As := [.int p1, .int p2]) (ci := 0) (q0 := 0) (wr := [((ad 0), .inr (1, [.ref (ad 1), .ref (ad 2), .ref (ad 3), .ref (ad 4), .ref (ad 5), .ref (ad 6), .ref (ad 7), .ref (ad 8), .ref (ad 9), .ref (ad 10), .ref (ad 11), .ref (ad 12), .ref (ad 13), .int T, .int Dv, .int C])), ((ad 1), .inl (cI, 6, .inl (f 0))), ((ad 2), .inl (cI, 6, .inl (f 1))), ((ad 3), .inl (cI, 6, .inl (f 2))), ((ad 4), .inl (cI, 6, .inl (f 3))), ((ad 5), .inl (cI, 360, .inl (f 4))), ((ad 6), .inl (cI, 360, .inl (f 5))), ((ad 7), .inl (cI, 2, .inl (f 6))), ((ad 8), .inl (cI, 2, .inl (f 7))), ((ad 9), .inl (cI, 20, .inl (f 8))), ((ad 10), .inl (cI, 20, .inl (f 9))), ((ad 11), .inl (cI, 20, .inl (f 10))), ((ad 12), .inl (cI, 20, .inl (f 11)))]) (wF := (fun uZ => (WX cI ad f lo hi T Dv C))) (kX0_high l D cI ad lo hi p1 p2 (t) (w) (by omega) (by omega) (by omega) (by omega)) ⟨hx, hb, hml, hown, hts⟩ (cwV 2 hts gX1_leastRest_X0_high rfl rfl rfl (by decide +kernel) ⟨Nat.le_of_ble_eq_true rfl, Nat.le_of_ble_eq_true rfl⟩) hK hP hD hS hA [13, 14, 15] [0, 1, 2, 3, 4, 5, 6, 7, 8, 9, 10, 11, 12] [0, 1, 2, 3, 4, 5, 6, 7, 8, 9, 10, 11, 12, 13, 14, 15] rfl (by decide) rfl (by decide) (by decide) (by decide) (fun _ => rfl) rfl rfl rfl rfl hl.1 rfl (Nat.le_of_ble_eq_true rfl) dX1_leastRest_17 ⟨Nat.zero_le _, Nat.zero_le _⟩ (fun r17 u17 H locs q17 hP hD hS => ?_)
  try dsimp only at q17
  have hP : va_P D vwCl (WX cI ad f lo hi T Dv C) H := hP
  have hD : va_D A (WX cI ad f lo hi T Dv C) := hD
  have y17 : r17.toInt = (hi (3 * t + w)).toInt := by rw [q17]
  refine c_isub hx hb dX1_leastRest_20 (by omega) (fun v20 i20 => ?_)
  refine lv_aload_n hx hb dX1_leastRest_21 rfl (lv_at hl 0 rfl) ?_
  refine va_get (D := D) (ci := 1) (v := .ref (ad 13)) (C := RX1) (T := TX1) (N := 16) hx hb hts inX1 hown hK hP 0 rfl rfl 12 (by decide) fl49 (fun _ h9 => h9) rfl dX1_leastRest_22 ?_
  refine c_bipush hx hb dX1_leastRest_25 (by decide) (fun v25 i25 => ?_)
  refine lv_iload_n hx hb dX1_leastRest_27 rfl (lv_at hl 2 rfl) ?_
  refine c_cvi (As := [.int v25, .int p2]) (ci := 0) (q0 := 0) (wr := [((ad 0), .inr (1, [.ref (ad 1), .ref (ad 2), .ref (ad 3), .ref (ad 4), .ref (ad 5), .ref (ad 6), .ref (ad 7), .ref (ad 8), .ref (ad 9), .ref (ad 10), .ref (ad 11), .ref (ad 12), .ref (ad 13), .int T, .int Dv, .int C])), ((ad 1), .inl (cI, 6, .inl (f 0))), ((ad 2), .inl (cI, 6, .inl (f 1))), ((ad 3), .inl (cI, 6, .inl (f 2))), ((ad 4), .inl (cI, 6, .inl (f 3))), ((ad 5), .inl (cI, 360, .inl (f 4))), ((ad 6), .inl (cI, 360, .inl (f 5))), ((ad 7), .inl (cI, 2, .inl (f 6))), ((ad 8), .inl (cI, 2, .inl (f 7))), ((ad 9), .inl (cI, 20, .inl (f 8))), ((ad 10), .inl (cI, 20, .inl (f 9))), ((ad 11), .inl (cI, 20, .inl (f 10))), ((ad 12), .inl (cI, 20, .inl (f 11)))]) (wF := (fun uZ => (WX cI ad f lo hi T Dv C))) (kX0_high l D cI ad lo hi v25 p2 (61) (w) (by omega) (by omega) (by omega) (by omega)) ⟨hx, hb, hml, hown, hts⟩ (cwV 2 hts gX1_leastRest_X0_high rfl rfl rfl (by decide +kernel) ⟨Nat.le_of_ble_eq_true rfl, Nat.le_of_ble_eq_true rfl⟩) hK hP hD hS hA [13, 14, 15] [0, 1, 2, 3, 4, 5, 6, 7, 8, 9, 10, 11, 12] [0, 1, 2, 3, 4, 5, 6, 7, 8, 9, 10, 11, 12, 13, 14, 15] rfl (by decide) rfl (by decide) (by decide) (by decide) (fun _ => rfl) rfl rfl rfl rfl hl.1 rfl (Nat.le_of_ble_eq_true rfl) dX1_leastRest_28 ⟨Nat.zero_le _, Nat.zero_le _⟩ (fun r28 u28 H locs q28 hP hD hS => ?_)
  try dsimp only at q28
  have hP : va_P D vwCl (WX cI ad f lo hi T Dv C) H := hP
  have hD : va_D A (WX cI ad f lo hi T Dv C) := hD
  have y28 : r28.toInt = (hi (3 * 61 + w)).toInt := by rw [q28]
  refine c_isub hx hb dX1_leastRest_31 (by omega) (fun v31 i31 => ?_)
  exact c_ri () hx hb hr hlocks hK hP hD hS dX1_leastRest_32 (by (try dsimp only); omega)
set_option maxHeartbeats 4000000 in
set_option maxRecDepth 100000 in
theorem kX1_mostRest (l : Launch) (D : va_G) (cI : ClassId) (ad : Nat → Nat) (f : Nat → Nat → Int32) (lo : Nat → Int32) (hi : Nat → Int32) (T : Int32) (Dv : Int32) (C : Int32) (Tn : Nat) (Dn : Nat) (Cn : Nat) (p1 : Int32) (p2 : Int32) (t : Nat) (w : Nat) (hT : T.toInt = (Tn : Int)) (hDv : Dv.toInt = (Dn : Int)) (hC : C.toInt = (Cn : Int)) (hI : Inv f Tn Dn Cn) (ht : p1.toInt = (t : Int)) (hw : p2.toInt = (w : Int)) (htn : t < 60) (hw2 : w ≤ 2) (hb1 : bd (rwX lo hi (t + 1)) 1000000) (hb2 : bd (rwX lo hi t) 1000000) (hb3 : bd (rwX lo hi 61) 1000000) : MI l yX1_mostRest wsX1_mostRest ({ frames := 2, cells := 0, slots := 0, locals := 43 } : Room) D [(cI, .int)] [.ref (ad 0), .int p1, .int p2] (WX cI ad f lo hi T Dv C) (fun u : Unit => (WX cI ad f lo hi T Dv C)) (fun (r : Int32) (_ : Unit) => r.toInt = (hi (3 * (t + 1) + w)).toInt - (lo (3 * t + w)).toInt - (lo (3 * 61 + w)).toInt) := by
  refine c_ent (cc := cX1_mostRest) (maxL := 3) (ret := (some .int)) (Qc := fun A => va_Qi (fun (r : Int32) (_ : Unit) => r.toInt = (hi (3 * (t + 1) + w)).toInt - (lo (3 * t + w)).toInt - (lo (3 * 61 + w)).toInt) (cB D [(cI, .int)] A (fun u : Unit => (WX cI ad f lo hi T Dv C))) A) (by decide) rfl (Nat.le_of_ble_eq_true rfl) ?_
  intro p e s m below meth c A ls hx hb hr hlocks hts hown hml hK hP hD hA hl
  have hS : va_S A s.heap s.heap [] := va_S.rf
  have hl : lv_has ls 3 [(0, .ref (ad 0)), (1, .int p1), (2, .int p2)] := hl
  have hP : va_P D vwCl (WX cI ad f lo hi T Dv C) s.heap := hP
  have fl49 := hts (.fieldLink RX1 49 "DoorBench" "spans" "LDoorBench$Spans;") (by decide +kernel)
  have inX1 : ∀ w ∈ wsX10, w ∈ wsX1_mostRest := by decide +kernel
  obtain ⟨hI0, hId, hIr, hIs, hIc⟩ := id hI
  have z1 := bd_at hb1 (k := w) hw2
  have z2 := bd_at hb2 (k := w) hw2
  have z3 := bd_at hb3 (k := w) hw2
  refine lv_aload_n hx hb dX1_mostRest_0 rfl (lv_at hl 0 rfl) ?_
  refine va_get (D := D) (ci := 1) (v := .ref (ad 13)) (C := RX1) (T := TX1) (N := 16) hx hb hts inX1 hown hK hP 0 rfl rfl 12 (by decide) fl49 (fun _ h9 => h9) rfl dX1_mostRest_1 ?_
  refine lv_iload_n hx hb dX1_mostRest_4 rfl (lv_at hl 1 rfl) ?_
  refine c_iconst hx hb dX1_mostRest_5 (by decide) (fun v5 i5 => ?_)
  refine c_iadd hx hb dX1_mostRest_6 (by omega) (fun v6 i6 => ?_)
  refine lv_iload_n hx hb dX1_mostRest_7 rfl (lv_at hl 2 rfl) ?_
  refine c_cvi (As := [.int v6, .int p2]) (ci := 0) (q0 := 0) (wr := [((ad 0), .inr (1, [.ref (ad 1), .ref (ad 2), .ref (ad 3), .ref (ad 4), .ref (ad 5), .ref (ad 6), .ref (ad 7), .ref (ad 8), .ref (ad 9), .ref (ad 10), .ref (ad 11), .ref (ad 12), .ref (ad 13), .int T, .int Dv, .int C])), ((ad 1), .inl (cI, 6, .inl (f 0))), ((ad 2), .inl (cI, 6, .inl (f 1))), ((ad 3), .inl (cI, 6, .inl (f 2))), ((ad 4), .inl (cI, 6, .inl (f 3))), ((ad 5), .inl (cI, 360, .inl (f 4))), ((ad 6), .inl (cI, 360, .inl (f 5))), ((ad 7), .inl (cI, 2, .inl (f 6))), ((ad 8), .inl (cI, 2, .inl (f 7))), ((ad 9), .inl (cI, 20, .inl (f 8))), ((ad 10), .inl (cI, 20, .inl (f 9))), ((ad 11), .inl (cI, 20, .inl (f 10))), ((ad 12), .inl (cI, 20, .inl (f 11)))]) (wF := (fun uZ => (WX cI ad f lo hi T Dv C))) (kX0_high l D cI ad lo hi v6 p2 (t + 1) (w) (by omega) (by omega) (by omega) (by omega)) ⟨hx, hb, hml, hown, hts⟩ (cwV 2 hts gX1_mostRest_X0_high rfl rfl rfl (by decide +kernel) ⟨Nat.le_of_ble_eq_true rfl, Nat.le_of_ble_eq_true rfl⟩) hK hP hD hS hA [13, 14, 15] [0, 1, 2, 3, 4, 5, 6, 7, 8, 9, 10, 11, 12] [0, 1, 2, 3, 4, 5, 6, 7, 8, 9, 10, 11, 12, 13, 14, 15] rfl (by decide) rfl (by decide) (by decide) (by decide) (fun _ => rfl) rfl rfl rfl rfl hl.1 rfl (Nat.le_of_ble_eq_true rfl) dX1_mostRest_8 ⟨Nat.zero_le _, Nat.zero_le _⟩ (fun r8 u8 H locs q8 hP hD hS => ?_)
  try dsimp only at q8
  have hP : va_P D vwCl (WX cI ad f lo hi T Dv C) H := hP
  have hD : va_D A (WX cI ad f lo hi T Dv C) := hD
  have y8 : r8.toInt = (hi (3 * (t + 1) + w)).toInt := by rw [q8]
  refine lv_aload_n hx hb dX1_mostRest_11 rfl (lv_at hl 0 rfl) ?_
  refine va_get (D := D) (ci := 1) (v := .ref (ad 13)) (C := RX1) (T := TX1) (N := 16) hx hb hts inX1 hown hK hP 0 rfl rfl 12 (by decide) fl49 (fun _ h9 => h9) rfl dX1_mostRest_12 ?_
  refine lv_iload_n hx hb dX1_mostRest_15 rfl (lv_at hl 1 rfl) ?_
  refine lv_iload_n hx hb dX1_mostRest_16 rfl (lv_at hl 2 rfl) ?_
  refine c_cvi (As := [.int p1, .int p2]) (ci := 0) (q0 := 0) (wr := [((ad 0), .inr (1, [.ref (ad 1), .ref (ad 2), .ref (ad 3), .ref (ad 4), .ref (ad 5), .ref (ad 6), .ref (ad 7), .ref (ad 8), .ref (ad 9), .ref (ad 10), .ref (ad 11), .ref (ad 12), .ref (ad 13), .int T, .int Dv, .int C])), ((ad 1), .inl (cI, 6, .inl (f 0))), ((ad 2), .inl (cI, 6, .inl (f 1))), ((ad 3), .inl (cI, 6, .inl (f 2))), ((ad 4), .inl (cI, 6, .inl (f 3))), ((ad 5), .inl (cI, 360, .inl (f 4))), ((ad 6), .inl (cI, 360, .inl (f 5))), ((ad 7), .inl (cI, 2, .inl (f 6))), ((ad 8), .inl (cI, 2, .inl (f 7))), ((ad 9), .inl (cI, 20, .inl (f 8))), ((ad 10), .inl (cI, 20, .inl (f 9))), ((ad 11), .inl (cI, 20, .inl (f 10))), ((ad 12), .inl (cI, 20, .inl (f 11)))]) (wF := (fun uZ => (WX cI ad f lo hi T Dv C))) (kX0_low l D cI ad lo hi p1 p2 (t) (w) (by omega) (by omega) (by omega) (by omega)) ⟨hx, hb, hml, hown, hts⟩ (cwV 2 hts gX1_mostRest_X0_low rfl rfl rfl (by decide +kernel) ⟨Nat.le_of_ble_eq_true rfl, Nat.le_of_ble_eq_true rfl⟩) hK hP hD hS hA [13, 14, 15] [0, 1, 2, 3, 4, 5, 6, 7, 8, 9, 10, 11, 12] [0, 1, 2, 3, 4, 5, 6, 7, 8, 9, 10, 11, 12, 13, 14, 15] rfl (by decide) rfl (by decide) (by decide) (by decide) (fun _ => rfl) rfl rfl rfl rfl hl.1 rfl (Nat.le_of_ble_eq_true rfl) dX1_mostRest_17 ⟨Nat.zero_le _, Nat.zero_le _⟩ (fun r17 u17 H locs q17 hP hD hS => ?_)
  try dsimp only at q17
  have hP : va_P D vwCl (WX cI ad f lo hi T Dv C) H := hP
  have hD : va_D A (WX cI ad f lo hi T Dv C) := hD
  have y17 : r17.toInt = (lo (3 * t + w)).toInt := by rw [q17]
  refine c_isub hx hb dX1_mostRest_20 (by omega) (fun v20 i20 => ?_)
  refine lv_aload_n hx hb dX1_mostRest_21 rfl (lv_at hl 0 rfl) ?_
  refine va_get (D := D) (ci := 1) (v := .ref (ad 13)) (C := RX1) (T := TX1) (N := 16) hx hb hts inX1 hown hK hP 0 rfl rfl 12 (by decide) fl49 (fun _ h9 => h9) rfl dX1_mostRest_22 ?_
  refine c_bipush hx hb dX1_mostRest_25 (by decide) (fun v25 i25 => ?_)
  refine lv_iload_n hx hb dX1_mostRest_27 rfl (lv_at hl 2 rfl) ?_
  refine c_cvi (As := [.int v25, .int p2]) (ci := 0) (q0 := 0) (wr := [((ad 0), .inr (1, [.ref (ad 1), .ref (ad 2), .ref (ad 3), .ref (ad 4), .ref (ad 5), .ref (ad 6), .ref (ad 7), .ref (ad 8), .ref (ad 9), .ref (ad 10), .ref (ad 11), .ref (ad 12), .ref (ad 13), .int T, .int Dv, .int C])), ((ad 1), .inl (cI, 6, .inl (f 0))), ((ad 2), .inl (cI, 6, .inl (f 1))), ((ad 3), .inl (cI, 6, .inl (f 2))), ((ad 4), .inl (cI, 6, .inl (f 3))), ((ad 5), .inl (cI, 360, .inl (f 4))), ((ad 6), .inl (cI, 360, .inl (f 5))), ((ad 7), .inl (cI, 2, .inl (f 6))), ((ad 8), .inl (cI, 2, .inl (f 7))), ((ad 9), .inl (cI, 20, .inl (f 8))), ((ad 10), .inl (cI, 20, .inl (f 9))), ((ad 11), .inl (cI, 20, .inl (f 10))), ((ad 12), .inl (cI, 20, .inl (f 11)))]) (wF := (fun uZ => (WX cI ad f lo hi T Dv C))) (kX0_low l D cI ad lo hi v25 p2 (61) (w) (by omega) (by omega) (by omega) (by omega)) ⟨hx, hb, hml, hown, hts⟩ (cwV 2 hts gX1_mostRest_X0_low rfl rfl rfl (by decide +kernel) ⟨Nat.le_of_ble_eq_true rfl, Nat.le_of_ble_eq_true rfl⟩) hK hP hD hS hA [13, 14, 15] [0, 1, 2, 3, 4, 5, 6, 7, 8, 9, 10, 11, 12] [0, 1, 2, 3, 4, 5, 6, 7, 8, 9, 10, 11, 12, 13, 14, 15] rfl (by decide) rfl (by decide) (by decide) (by decide) (fun _ => rfl) rfl rfl rfl rfl hl.1 rfl (Nat.le_of_ble_eq_true rfl) dX1_mostRest_28 ⟨Nat.zero_le _, Nat.zero_le _⟩ (fun r28 u28 H locs q28 hP hD hS => ?_)
  try dsimp only at q28
  have hP : va_P D vwCl (WX cI ad f lo hi T Dv C) H := hP
  have hD : va_D A (WX cI ad f lo hi T Dv C) := hD
  have y28 : r28.toInt = (lo (3 * 61 + w)).toInt := by rw [q28]
  refine c_isub hx hb dX1_mostRest_31 (by omega) (fun v31 i31 => ?_)
  exact c_ri () hx hb hr hlocks hK hP hD hS dX1_mostRest_32 (by (try dsimp only); omega)
set_option maxHeartbeats 4000000 in
set_option maxRecDepth 100000 in
theorem kX1_leastThrough (l : Launch) (D : va_G) (cI : ClassId) (ad : Nat → Nat) (f : Nat → Nat → Int32) (lo : Nat → Int32) (hi : Nat → Int32) (T : Int32) (Dv : Int32) (C : Int32) (Tn : Nat) (Dn : Nat) (Cn : Nat) (p1 : Int32) (p2 : Int32) (d : Nat) (t : Nat) (hT : T.toInt = (Tn : Int)) (hDv : Dv.toInt = (Dn : Int)) (hC : C.toInt = (Cn : Int)) (hI : Inv f Tn Dn Cn) (hd : p1.toInt = (d : Int)) (hdn : d < Dn) (ht : p2.toInt = (t : Int)) (htn : t < Tn) (hb1 : bd (rwX lo hi (t + 1)) 1000000) (hb2 : bd (rwX lo hi t) 1000000) (hb3 : bd (rwX lo hi 61) 1000000) : MI l yX1_leastThrough wsX1_leastThrough ({ frames := 3, cells := 0, slots := 0, locals := 68 } : Room) D [(cI, .int)] [.ref (ad 0), .int p1, .int p2] (WX cI ad f lo hi T Dv C) (fun u : Unit => (WX cI ad f lo hi T Dv C)) (fun (r : Int32) (_ : Unit) => r.toInt = thL (f 0 d).toInt (nLo f d t 0) (rwX lo hi (t + 1)) (rwX lo hi t) (rwX lo hi 61)) := by
  refine c_ent (cc := cX1_leastThrough) (maxL := 4) (ret := (some .int)) (Qc := fun A => va_Qi (fun (r : Int32) (_ : Unit) => r.toInt = thL (f 0 d).toInt (nLo f d t 0) (rwX lo hi (t + 1)) (rwX lo hi t) (rwX lo hi 61)) (cB D [(cI, .int)] A (fun u : Unit => (WX cI ad f lo hi T Dv C))) A) (by decide) rfl (Nat.le_of_ble_eq_true rfl) ?_
  intro p e s m below meth c A ls hx hb hr hlocks hts hown hml hK hP hD hA hl
  have hS : va_S A s.heap s.heap [] := va_S.rf
  have hl : lv_has ls 4 [(0, .ref (ad 0)), (1, .int p1), (2, .int p2)] := hl
  have hP : va_P D vwCl (WX cI ad f lo hi T Dv C) s.heap := hP
  have fl9 := hts (.fieldLink RX1 9 "DoorBench" "kinds" "[I") (by decide +kernel)
  have inX1 : ∀ w ∈ wsX10, w ∈ wsX1_leastThrough := by decide +kernel
  have ml154 := hts (.methodLink RX1 154 Lib.Math.max.name) (by decide +kernel)
  have ms154 := hts (.static Lib.Math.max.name) (by decide +kernel)
  have mi154 := hts (.initialized "java/lang/Math") (by decide +kernel)
  have mc154 := hts (.code Lib.Math.max.name Lib.Math.max.code 2 (some .int)) (by decide +kernel)
  obtain ⟨hI0, hId, hIr, hIs, hIc⟩ := id hI
  have n1 := hId d hdn
  refine lv_aload_n hx hb dX1_leastThrough_0 rfl (lv_at hl 0 rfl) ?_
  refine lv_iload_n hx hb dX1_leastThrough_1 rfl (lv_at hl 1 rfl) ?_
  refine lv_iload_n hx hb dX1_leastThrough_2 rfl (lv_at hl 2 rfl) ?_
  refine c_iconst hx hb dX1_leastThrough_3 (by decide) (fun v3 i3 => ?_)
  refine c_wvi (As := [.int p1, .int p2, .int v3]) (ci := 1) (q0 := 0) (kX1_leastNet l D cI ad f lo hi T Dv C Tn Dn Cn p1 p2 v3 (d) (t) hT hDv hC hI (by omega) (by omega) (by omega) (by omega) (by omega)) ⟨hx, hb, hml, hown, hts⟩ (cwV 3 hts gX1_leastThrough_X1_leastNet rfl rfl rfl (by decide +kernel) ⟨Nat.le_of_ble_eq_true rfl, Nat.le_of_ble_eq_true rfl⟩) hK hP hD hS hA rfl rfl rfl rfl hl.1 rfl (Nat.le_of_ble_eq_true rfl) dX1_leastThrough_4 ⟨Nat.zero_le _, Nat.zero_le _⟩ (fun r4 u4 H locs q4 hP hD hS => ?_)
  try dsimp only at q4
  have hP : va_P D vwCl (WX cI ad f lo hi T Dv C) H := hP
  have hD : va_D A (WX cI ad f lo hi T Dv C) := hD
  rw [i3] at q4
  refine lv_istore_n (lv' := [(3, .int r4), (0, .ref (ad 0)), (1, .int p1), (2, .int p2)]) hx hb dX1_leastThrough_7 rfl hl (by decide) rfl (fun ls hl => ?_)
  refine lv_aload_n hx hb dX1_leastThrough_8 rfl (lv_at hl 1 rfl) ?_
  refine va_get (D := D) (ci := 1) (v := .ref (ad 1)) (C := RX1) (T := TX1) (N := 16) hx hb hts inX1 hown hK hP 0 rfl rfl 0 (by decide) fl9 (fun _ h9 => h9) rfl dX1_leastThrough_9 ?_
  refine lv_iload_n hx hb dX1_leastThrough_12 rfl (lv_at hl 2 rfl) ?_
  refine c_iald hx hb hK hP 1 0 rfl rfl (d) (by omega) (by omega) dX1_leastThrough_13 (fun v13 e13 => ?_)
  have i13 : v13.toInt = ((f 0) (d)).toInt := by rw [e13]
  refine c_if_ne (tgt := 37) hx hb dX1_leastThrough_14 (by decide) (fun c14 => ?_) (fun c14 => ?_)
  · skip
    refine lv_aload_n hx hb dX1_leastThrough_37 rfl (lv_at hl 1 rfl) ?_
    refine va_get (D := D) (ci := 1) (v := .ref (ad 1)) (C := RX1) (T := TX1) (N := 16) hx hb hts inX1 hown hK hP 0 rfl rfl 0 (by decide) fl9 (fun _ h9 => h9) rfl dX1_leastThrough_38 ?_
    refine lv_iload_n hx hb dX1_leastThrough_41 rfl (lv_at hl 2 rfl) ?_
    refine c_iald hx hb hK hP 1 0 rfl rfl (d) (by omega) (by omega) dX1_leastThrough_42 (fun v42 e42 => ?_)
    have i42 : v42.toInt = ((f 0) (d)).toInt := by rw [e42]
    refine c_iconst hx hb dX1_leastThrough_43 (by decide) (fun v43 i43 => ?_)
    refine c_icmp_ne (tgt := 67) hx hb dX1_leastThrough_44 (by decide) (fun c44 => ?_) (fun c44 => ?_)
    · skip
      refine lv_iload_n hx hb dX1_leastThrough_67 rfl (lv_at hl 0 rfl) ?_
      refine lv_aload_n hx hb dX1_leastThrough_68 rfl (lv_at hl 1 rfl) ?_
      refine lv_iload_n hx hb dX1_leastThrough_69 rfl (lv_at hl 3 rfl) ?_
      refine c_iconst hx hb dX1_leastThrough_70 (by decide) (fun v70 i70 => ?_)
      refine c_wvi (As := [.int p2, .int v70]) (ci := 1) (q0 := 0) (kX1_leastRest l D cI ad f lo hi T Dv C Tn Dn Cn p2 v70 (t) (1) hT hDv hC hI (by omega) (by omega) (by omega) (by omega) hb1 hb2 hb3) ⟨hx, hb, hml, hown, hts⟩ (cwV 2 hts gX1_leastThrough_X1_leastRest rfl rfl rfl (by decide +kernel) ⟨Nat.le_of_ble_eq_true rfl, Nat.le_of_ble_eq_true rfl⟩) hK hP hD hS hA rfl rfl rfl rfl hl.1 rfl (Nat.le_of_ble_eq_true rfl) dX1_leastThrough_71 ⟨Nat.zero_le _, Nat.zero_le _⟩ (fun r71 u71 H locs q71 hP hD hS => ?_)
      try dsimp only at q71
      have hP : va_P D vwCl (WX cI ad f lo hi T Dv C) H := hP
      have hD : va_D A (WX cI ad f lo hi T Dv C) := hD
      have y71 : r71.toInt = rwX lo hi (t + 1) 2 - rwX lo hi t 3 - rwX lo hi 61 3 := q71
      refine lv_aload_n hx hb dX1_leastThrough_74 rfl (lv_at hl 1 rfl) ?_
      refine lv_iload_n hx hb dX1_leastThrough_75 rfl (lv_at hl 3 rfl) ?_
      refine c_iconst hx hb dX1_leastThrough_76 (by decide) (fun v76 i76 => ?_)
      refine c_wvi (As := [.int p2, .int v76]) (ci := 1) (q0 := 0) (kX1_mostRest l D cI ad f lo hi T Dv C Tn Dn Cn p2 v76 (t) (0) hT hDv hC hI (by omega) (by omega) (by omega) (by omega) hb1 hb2 hb3) ⟨hx, hb, hml, hown, hts⟩ (cwV 2 hts gX1_leastThrough_X1_mostRest rfl rfl rfl (by decide +kernel) ⟨Nat.le_of_ble_eq_true rfl, Nat.le_of_ble_eq_true rfl⟩) hK hP hD hS hA rfl rfl rfl rfl hl.1 rfl (Nat.le_of_ble_eq_true rfl) dX1_leastThrough_77 ⟨Nat.zero_le _, Nat.zero_le _⟩ (fun r77 u77 H locs q77 hP hD hS => ?_)
      try dsimp only at q77
      have hP : va_P D vwCl (WX cI ad f lo hi T Dv C) H := hP
      have hD : va_D A (WX cI ad f lo hi T Dv C) := hD
      have y77 : r77.toInt = rwX lo hi (t + 1) 1 - rwX lo hi t 0 - rwX lo hi 61 0 := q77
      obtain ⟨z10, z11, z12, z13, z14, z15⟩ := id hb1
      obtain ⟨z20, z21, z22, z23, z24, z25⟩ := id hb2
      obtain ⟨z30, z31, z32, z33, z34, z35⟩ := id hb3
      refine c_ineg hx hb dX1_leastThrough_80 (by omega) (fun v80 i80 => ?_)
      refine c_mmax hx hb (hml.trans hl.1.symm) hown ml154 ms154 mi154 mc154 (Nat.le_of_ble_eq_true rfl) (Nat.le_of_ble_eq_true rfl) (Nat.zero_le _) (Nat.zero_le _) dX1_leastThrough_81 (fun v81 i81 => ?_)
      refine c_mmax hx hb (hml.trans hl.1.symm) hown ml154 ms154 mi154 mc154 (Nat.le_of_ble_eq_true rfl) (Nat.le_of_ble_eq_true rfl) (Nat.zero_le _) (Nat.zero_le _) dX1_leastThrough_84 (fun v84 i84 => ?_)
      exact c_ri () hx hb hr hlocks hK hP hD hS dX1_leastThrough_87 (by (try dsimp only); unfold thL; rw [if_neg (by omega), if_neg (by omega), i84, i81, i80, y71, y77, q4])
    · skip
      refine lv_iload_n hx hb dX1_leastThrough_47 rfl (lv_at hl 0 rfl) ?_
      refine lv_aload_n hx hb dX1_leastThrough_48 rfl (lv_at hl 1 rfl) ?_
      refine lv_iload_n hx hb dX1_leastThrough_49 rfl (lv_at hl 3 rfl) ?_
      refine c_iconst hx hb dX1_leastThrough_50 (by decide) (fun v50 i50 => ?_)
      refine c_wvi (As := [.int p2, .int v50]) (ci := 1) (q0 := 0) (kX1_leastRest l D cI ad f lo hi T Dv C Tn Dn Cn p2 v50 (t) (1) hT hDv hC hI (by omega) (by omega) (by omega) (by omega) hb1 hb2 hb3) ⟨hx, hb, hml, hown, hts⟩ (cwV 2 hts gX1_leastThrough_X1_leastRest rfl rfl rfl (by decide +kernel) ⟨Nat.le_of_ble_eq_true rfl, Nat.le_of_ble_eq_true rfl⟩) hK hP hD hS hA rfl rfl rfl rfl hl.1 rfl (Nat.le_of_ble_eq_true rfl) dX1_leastThrough_51 ⟨Nat.zero_le _, Nat.zero_le _⟩ (fun r51 u51 H locs q51 hP hD hS => ?_)
      try dsimp only at q51
      have hP : va_P D vwCl (WX cI ad f lo hi T Dv C) H := hP
      have hD : va_D A (WX cI ad f lo hi T Dv C) := hD
      have y51 : r51.toInt = rwX lo hi (t + 1) 2 - rwX lo hi t 3 - rwX lo hi 61 3 := q51
      refine lv_aload_n hx hb dX1_leastThrough_54 rfl (lv_at hl 1 rfl) ?_
      refine lv_iload_n hx hb dX1_leastThrough_55 rfl (lv_at hl 3 rfl) ?_
      refine c_iconst hx hb dX1_leastThrough_56 (by decide) (fun v56 i56 => ?_)
      refine c_wvi (As := [.int p2, .int v56]) (ci := 1) (q0 := 0) (kX1_leastRest l D cI ad f lo hi T Dv C Tn Dn Cn p2 v56 (t) (2) hT hDv hC hI (by omega) (by omega) (by omega) (by omega) hb1 hb2 hb3) ⟨hx, hb, hml, hown, hts⟩ (cwV 2 hts gX1_leastThrough_X1_leastRest rfl rfl rfl (by decide +kernel) ⟨Nat.le_of_ble_eq_true rfl, Nat.le_of_ble_eq_true rfl⟩) hK hP hD hS hA rfl rfl rfl rfl hl.1 rfl (Nat.le_of_ble_eq_true rfl) dX1_leastThrough_57 ⟨Nat.zero_le _, Nat.zero_le _⟩ (fun r57 u57 H locs q57 hP hD hS => ?_)
      try dsimp only at q57
      have hP : va_P D vwCl (WX cI ad f lo hi T Dv C) H := hP
      have hD : va_D A (WX cI ad f lo hi T Dv C) := hD
      have y57 : r57.toInt = rwX lo hi (t + 1) 4 - rwX lo hi t 5 - rwX lo hi 61 5 := q57
      refine c_mmax hx hb (hml.trans hl.1.symm) hown ml154 ms154 mi154 mc154 (Nat.le_of_ble_eq_true rfl) (Nat.le_of_ble_eq_true rfl) (Nat.zero_le _) (Nat.zero_le _) dX1_leastThrough_60 (fun v60 i60 => ?_)
      refine c_mmax hx hb (hml.trans hl.1.symm) hown ml154 ms154 mi154 mc154 (Nat.le_of_ble_eq_true rfl) (Nat.le_of_ble_eq_true rfl) (Nat.zero_le _) (Nat.zero_le _) dX1_leastThrough_63 (fun v63 i63 => ?_)
      exact c_ri () hx hb hr hlocks hK hP hD hS dX1_leastThrough_66 (by (try dsimp only); unfold thL; rw [if_neg (by omega), if_pos (by omega), i63, i60, y51, y57, q4])
  · skip
    refine lv_iload_n hx hb dX1_leastThrough_17 rfl (lv_at hl 0 rfl) ?_
    refine lv_aload_n hx hb dX1_leastThrough_18 rfl (lv_at hl 1 rfl) ?_
    refine lv_iload_n hx hb dX1_leastThrough_19 rfl (lv_at hl 3 rfl) ?_
    refine c_iconst hx hb dX1_leastThrough_20 (by decide) (fun v20 i20 => ?_)
    refine c_wvi (As := [.int p2, .int v20]) (ci := 1) (q0 := 0) (kX1_leastRest l D cI ad f lo hi T Dv C Tn Dn Cn p2 v20 (t) (0) hT hDv hC hI (by omega) (by omega) (by omega) (by omega) hb1 hb2 hb3) ⟨hx, hb, hml, hown, hts⟩ (cwV 2 hts gX1_leastThrough_X1_leastRest rfl rfl rfl (by decide +kernel) ⟨Nat.le_of_ble_eq_true rfl, Nat.le_of_ble_eq_true rfl⟩) hK hP hD hS hA rfl rfl rfl rfl hl.1 rfl (Nat.le_of_ble_eq_true rfl) dX1_leastThrough_21 ⟨Nat.zero_le _, Nat.zero_le _⟩ (fun r21 u21 H locs q21 hP hD hS => ?_)
    try dsimp only at q21
    have hP : va_P D vwCl (WX cI ad f lo hi T Dv C) H := hP
    have hD : va_D A (WX cI ad f lo hi T Dv C) := hD
    have y21 : r21.toInt = rwX lo hi (t + 1) 0 - rwX lo hi t 1 - rwX lo hi 61 1 := q21
    refine lv_aload_n hx hb dX1_leastThrough_24 rfl (lv_at hl 1 rfl) ?_
    refine lv_iload_n hx hb dX1_leastThrough_25 rfl (lv_at hl 3 rfl) ?_
    refine c_iconst hx hb dX1_leastThrough_26 (by decide) (fun v26 i26 => ?_)
    refine c_wvi (As := [.int p2, .int v26]) (ci := 1) (q0 := 0) (kX1_leastRest l D cI ad f lo hi T Dv C Tn Dn Cn p2 v26 (t) (2) hT hDv hC hI (by omega) (by omega) (by omega) (by omega) hb1 hb2 hb3) ⟨hx, hb, hml, hown, hts⟩ (cwV 2 hts gX1_leastThrough_X1_leastRest rfl rfl rfl (by decide +kernel) ⟨Nat.le_of_ble_eq_true rfl, Nat.le_of_ble_eq_true rfl⟩) hK hP hD hS hA rfl rfl rfl rfl hl.1 rfl (Nat.le_of_ble_eq_true rfl) dX1_leastThrough_27 ⟨Nat.zero_le _, Nat.zero_le _⟩ (fun r27 u27 H locs q27 hP hD hS => ?_)
    try dsimp only at q27
    have hP : va_P D vwCl (WX cI ad f lo hi T Dv C) H := hP
    have hD : va_D A (WX cI ad f lo hi T Dv C) := hD
    have y27 : r27.toInt = rwX lo hi (t + 1) 4 - rwX lo hi t 5 - rwX lo hi 61 5 := q27
    refine c_mmax hx hb (hml.trans hl.1.symm) hown ml154 ms154 mi154 mc154 (Nat.le_of_ble_eq_true rfl) (Nat.le_of_ble_eq_true rfl) (Nat.zero_le _) (Nat.zero_le _) dX1_leastThrough_30 (fun v30 i30 => ?_)
    refine c_mmax hx hb (hml.trans hl.1.symm) hown ml154 ms154 mi154 mc154 (Nat.le_of_ble_eq_true rfl) (Nat.le_of_ble_eq_true rfl) (Nat.zero_le _) (Nat.zero_le _) dX1_leastThrough_33 (fun v33 i33 => ?_)
    exact c_ri () hx hb hr hlocks hK hP hD hS dX1_leastThrough_36 (by (try dsimp only); unfold thL; rw [if_pos (by omega), i33, i30, y21, y27, q4])
set_option maxHeartbeats 4000000 in
set_option maxRecDepth 100000 in
theorem kX1_mostThrough (l : Launch) (D : va_G) (cI : ClassId) (ad : Nat → Nat) (f : Nat → Nat → Int32) (lo : Nat → Int32) (hi : Nat → Int32) (T : Int32) (Dv : Int32) (C : Int32) (Tn : Nat) (Dn : Nat) (Cn : Nat) (p1 : Int32) (p2 : Int32) (d : Nat) (t : Nat) (hT : T.toInt = (Tn : Int)) (hDv : Dv.toInt = (Dn : Int)) (hC : C.toInt = (Cn : Int)) (hI : Inv f Tn Dn Cn) (hd : p1.toInt = (d : Int)) (hdn : d < Dn) (ht : p2.toInt = (t : Int)) (htn : t < Tn) (hb1 : bd (rwX lo hi (t + 1)) 1000000) (hb2 : bd (rwX lo hi t) 1000000) (hb3 : bd (rwX lo hi 61) 1000000) : MI l yX1_mostThrough wsX1_mostThrough ({ frames := 3, cells := 0, slots := 0, locals := 68 } : Room) D [(cI, .int)] [.ref (ad 0), .int p1, .int p2] (WX cI ad f lo hi T Dv C) (fun u : Unit => (WX cI ad f lo hi T Dv C)) (fun (r : Int32) (_ : Unit) => r.toInt = thH (f 0 d).toInt (nHi f d t 0) (rwX lo hi (t + 1)) (rwX lo hi t) (rwX lo hi 61)) := by
  refine c_ent (cc := cX1_mostThrough) (maxL := 4) (ret := (some .int)) (Qc := fun A => va_Qi (fun (r : Int32) (_ : Unit) => r.toInt = thH (f 0 d).toInt (nHi f d t 0) (rwX lo hi (t + 1)) (rwX lo hi t) (rwX lo hi 61)) (cB D [(cI, .int)] A (fun u : Unit => (WX cI ad f lo hi T Dv C))) A) (by decide) rfl (Nat.le_of_ble_eq_true rfl) ?_
  intro p e s m below meth c A ls hx hb hr hlocks hts hown hml hK hP hD hA hl
  have hS : va_S A s.heap s.heap [] := va_S.rf
  have hl : lv_has ls 4 [(0, .ref (ad 0)), (1, .int p1), (2, .int p2)] := hl
  have hP : va_P D vwCl (WX cI ad f lo hi T Dv C) s.heap := hP
  have fl9 := hts (.fieldLink RX1 9 "DoorBench" "kinds" "[I") (by decide +kernel)
  have inX1 : ∀ w ∈ wsX10, w ∈ wsX1_mostThrough := by decide +kernel
  have ml205 := hts (.methodLink RX1 205 Lib.Math.min.name) (by decide +kernel)
  have ms205 := hts (.static Lib.Math.min.name) (by decide +kernel)
  have mi205 := hts (.initialized "java/lang/Math") (by decide +kernel)
  have mc205 := hts (.code Lib.Math.min.name Lib.Math.min.code 2 (some .int)) (by decide +kernel)
  obtain ⟨hI0, hId, hIr, hIs, hIc⟩ := id hI
  have n1 := hId d hdn
  refine lv_aload_n hx hb dX1_mostThrough_0 rfl (lv_at hl 0 rfl) ?_
  refine lv_iload_n hx hb dX1_mostThrough_1 rfl (lv_at hl 1 rfl) ?_
  refine lv_iload_n hx hb dX1_mostThrough_2 rfl (lv_at hl 2 rfl) ?_
  refine c_iconst hx hb dX1_mostThrough_3 (by decide) (fun v3 i3 => ?_)
  refine c_wvi (As := [.int p1, .int p2, .int v3]) (ci := 1) (q0 := 0) (kX1_mostNet l D cI ad f lo hi T Dv C Tn Dn Cn p1 p2 v3 (d) (t) hT hDv hC hI (by omega) (by omega) (by omega) (by omega) (by omega)) ⟨hx, hb, hml, hown, hts⟩ (cwV 3 hts gX1_mostThrough_X1_mostNet rfl rfl rfl (by decide +kernel) ⟨Nat.le_of_ble_eq_true rfl, Nat.le_of_ble_eq_true rfl⟩) hK hP hD hS hA rfl rfl rfl rfl hl.1 rfl (Nat.le_of_ble_eq_true rfl) dX1_mostThrough_4 ⟨Nat.zero_le _, Nat.zero_le _⟩ (fun r4 u4 H locs q4 hP hD hS => ?_)
  try dsimp only at q4
  have hP : va_P D vwCl (WX cI ad f lo hi T Dv C) H := hP
  have hD : va_D A (WX cI ad f lo hi T Dv C) := hD
  rw [i3] at q4
  refine lv_istore_n (lv' := [(3, .int r4), (0, .ref (ad 0)), (1, .int p1), (2, .int p2)]) hx hb dX1_mostThrough_7 rfl hl (by decide) rfl (fun ls hl => ?_)
  refine lv_aload_n hx hb dX1_mostThrough_8 rfl (lv_at hl 1 rfl) ?_
  refine va_get (D := D) (ci := 1) (v := .ref (ad 1)) (C := RX1) (T := TX1) (N := 16) hx hb hts inX1 hown hK hP 0 rfl rfl 0 (by decide) fl9 (fun _ h9 => h9) rfl dX1_mostThrough_9 ?_
  refine lv_iload_n hx hb dX1_mostThrough_12 rfl (lv_at hl 2 rfl) ?_
  refine c_iald hx hb hK hP 1 0 rfl rfl (d) (by omega) (by omega) dX1_mostThrough_13 (fun v13 e13 => ?_)
  have i13 : v13.toInt = ((f 0) (d)).toInt := by rw [e13]
  refine c_if_ne (tgt := 37) hx hb dX1_mostThrough_14 (by decide) (fun c14 => ?_) (fun c14 => ?_)
  · skip
    refine lv_aload_n hx hb dX1_mostThrough_37 rfl (lv_at hl 1 rfl) ?_
    refine va_get (D := D) (ci := 1) (v := .ref (ad 1)) (C := RX1) (T := TX1) (N := 16) hx hb hts inX1 hown hK hP 0 rfl rfl 0 (by decide) fl9 (fun _ h9 => h9) rfl dX1_mostThrough_38 ?_
    refine lv_iload_n hx hb dX1_mostThrough_41 rfl (lv_at hl 2 rfl) ?_
    refine c_iald hx hb hK hP 1 0 rfl rfl (d) (by omega) (by omega) dX1_mostThrough_42 (fun v42 e42 => ?_)
    have i42 : v42.toInt = ((f 0) (d)).toInt := by rw [e42]
    refine c_iconst hx hb dX1_mostThrough_43 (by decide) (fun v43 i43 => ?_)
    refine c_icmp_ne (tgt := 67) hx hb dX1_mostThrough_44 (by decide) (fun c44 => ?_) (fun c44 => ?_)
    · skip
      refine lv_iload_n hx hb dX1_mostThrough_67 rfl (lv_at hl 0 rfl) ?_
      refine lv_aload_n hx hb dX1_mostThrough_68 rfl (lv_at hl 1 rfl) ?_
      refine lv_iload_n hx hb dX1_mostThrough_69 rfl (lv_at hl 3 rfl) ?_
      refine c_iconst hx hb dX1_mostThrough_70 (by decide) (fun v70 i70 => ?_)
      refine c_wvi (As := [.int p2, .int v70]) (ci := 1) (q0 := 0) (kX1_mostRest l D cI ad f lo hi T Dv C Tn Dn Cn p2 v70 (t) (1) hT hDv hC hI (by omega) (by omega) (by omega) (by omega) hb1 hb2 hb3) ⟨hx, hb, hml, hown, hts⟩ (cwV 2 hts gX1_mostThrough_X1_mostRest rfl rfl rfl (by decide +kernel) ⟨Nat.le_of_ble_eq_true rfl, Nat.le_of_ble_eq_true rfl⟩) hK hP hD hS hA rfl rfl rfl rfl hl.1 rfl (Nat.le_of_ble_eq_true rfl) dX1_mostThrough_71 ⟨Nat.zero_le _, Nat.zero_le _⟩ (fun r71 u71 H locs q71 hP hD hS => ?_)
      try dsimp only at q71
      have hP : va_P D vwCl (WX cI ad f lo hi T Dv C) H := hP
      have hD : va_D A (WX cI ad f lo hi T Dv C) := hD
      have y71 : r71.toInt = rwX lo hi (t + 1) 3 - rwX lo hi t 2 - rwX lo hi 61 2 := q71
      refine lv_aload_n hx hb dX1_mostThrough_74 rfl (lv_at hl 1 rfl) ?_
      refine lv_iload_n hx hb dX1_mostThrough_75 rfl (lv_at hl 3 rfl) ?_
      refine c_iconst hx hb dX1_mostThrough_76 (by decide) (fun v76 i76 => ?_)
      refine c_wvi (As := [.int p2, .int v76]) (ci := 1) (q0 := 0) (kX1_leastRest l D cI ad f lo hi T Dv C Tn Dn Cn p2 v76 (t) (0) hT hDv hC hI (by omega) (by omega) (by omega) (by omega) hb1 hb2 hb3) ⟨hx, hb, hml, hown, hts⟩ (cwV 2 hts gX1_mostThrough_X1_leastRest rfl rfl rfl (by decide +kernel) ⟨Nat.le_of_ble_eq_true rfl, Nat.le_of_ble_eq_true rfl⟩) hK hP hD hS hA rfl rfl rfl rfl hl.1 rfl (Nat.le_of_ble_eq_true rfl) dX1_mostThrough_77 ⟨Nat.zero_le _, Nat.zero_le _⟩ (fun r77 u77 H locs q77 hP hD hS => ?_)
      try dsimp only at q77
      have hP : va_P D vwCl (WX cI ad f lo hi T Dv C) H := hP
      have hD : va_D A (WX cI ad f lo hi T Dv C) := hD
      have y77 : r77.toInt = rwX lo hi (t + 1) 0 - rwX lo hi t 1 - rwX lo hi 61 1 := q77
      obtain ⟨z10, z11, z12, z13, z14, z15⟩ := id hb1
      obtain ⟨z20, z21, z22, z23, z24, z25⟩ := id hb2
      obtain ⟨z30, z31, z32, z33, z34, z35⟩ := id hb3
      refine c_ineg hx hb dX1_mostThrough_80 (by omega) (fun v80 i80 => ?_)
      refine c_mmin hx hb (hml.trans hl.1.symm) hown ml205 ms205 mi205 mc205 (Nat.le_of_ble_eq_true rfl) (Nat.le_of_ble_eq_true rfl) (Nat.zero_le _) (Nat.zero_le _) dX1_mostThrough_81 (fun v81 i81 => ?_)
      refine c_mmin hx hb (hml.trans hl.1.symm) hown ml205 ms205 mi205 mc205 (Nat.le_of_ble_eq_true rfl) (Nat.le_of_ble_eq_true rfl) (Nat.zero_le _) (Nat.zero_le _) dX1_mostThrough_84 (fun v84 i84 => ?_)
      exact c_ri () hx hb hr hlocks hK hP hD hS dX1_mostThrough_87 (by (try dsimp only); unfold thH; rw [if_neg (by omega), if_neg (by omega), i84, i81, i80, y71, y77, q4])
    · skip
      refine lv_iload_n hx hb dX1_mostThrough_47 rfl (lv_at hl 0 rfl) ?_
      refine lv_aload_n hx hb dX1_mostThrough_48 rfl (lv_at hl 1 rfl) ?_
      refine lv_iload_n hx hb dX1_mostThrough_49 rfl (lv_at hl 3 rfl) ?_
      refine c_iconst hx hb dX1_mostThrough_50 (by decide) (fun v50 i50 => ?_)
      refine c_wvi (As := [.int p2, .int v50]) (ci := 1) (q0 := 0) (kX1_mostRest l D cI ad f lo hi T Dv C Tn Dn Cn p2 v50 (t) (1) hT hDv hC hI (by omega) (by omega) (by omega) (by omega) hb1 hb2 hb3) ⟨hx, hb, hml, hown, hts⟩ (cwV 2 hts gX1_mostThrough_X1_mostRest rfl rfl rfl (by decide +kernel) ⟨Nat.le_of_ble_eq_true rfl, Nat.le_of_ble_eq_true rfl⟩) hK hP hD hS hA rfl rfl rfl rfl hl.1 rfl (Nat.le_of_ble_eq_true rfl) dX1_mostThrough_51 ⟨Nat.zero_le _, Nat.zero_le _⟩ (fun r51 u51 H locs q51 hP hD hS => ?_)
      try dsimp only at q51
      have hP : va_P D vwCl (WX cI ad f lo hi T Dv C) H := hP
      have hD : va_D A (WX cI ad f lo hi T Dv C) := hD
      have y51 : r51.toInt = rwX lo hi (t + 1) 3 - rwX lo hi t 2 - rwX lo hi 61 2 := q51
      refine lv_aload_n hx hb dX1_mostThrough_54 rfl (lv_at hl 1 rfl) ?_
      refine lv_iload_n hx hb dX1_mostThrough_55 rfl (lv_at hl 3 rfl) ?_
      refine c_iconst hx hb dX1_mostThrough_56 (by decide) (fun v56 i56 => ?_)
      refine c_wvi (As := [.int p2, .int v56]) (ci := 1) (q0 := 0) (kX1_mostRest l D cI ad f lo hi T Dv C Tn Dn Cn p2 v56 (t) (2) hT hDv hC hI (by omega) (by omega) (by omega) (by omega) hb1 hb2 hb3) ⟨hx, hb, hml, hown, hts⟩ (cwV 2 hts gX1_mostThrough_X1_mostRest rfl rfl rfl (by decide +kernel) ⟨Nat.le_of_ble_eq_true rfl, Nat.le_of_ble_eq_true rfl⟩) hK hP hD hS hA rfl rfl rfl rfl hl.1 rfl (Nat.le_of_ble_eq_true rfl) dX1_mostThrough_57 ⟨Nat.zero_le _, Nat.zero_le _⟩ (fun r57 u57 H locs q57 hP hD hS => ?_)
      try dsimp only at q57
      have hP : va_P D vwCl (WX cI ad f lo hi T Dv C) H := hP
      have hD : va_D A (WX cI ad f lo hi T Dv C) := hD
      have y57 : r57.toInt = rwX lo hi (t + 1) 5 - rwX lo hi t 4 - rwX lo hi 61 4 := q57
      refine c_mmin hx hb (hml.trans hl.1.symm) hown ml205 ms205 mi205 mc205 (Nat.le_of_ble_eq_true rfl) (Nat.le_of_ble_eq_true rfl) (Nat.zero_le _) (Nat.zero_le _) dX1_mostThrough_60 (fun v60 i60 => ?_)
      refine c_mmin hx hb (hml.trans hl.1.symm) hown ml205 ms205 mi205 mc205 (Nat.le_of_ble_eq_true rfl) (Nat.le_of_ble_eq_true rfl) (Nat.zero_le _) (Nat.zero_le _) dX1_mostThrough_63 (fun v63 i63 => ?_)
      exact c_ri () hx hb hr hlocks hK hP hD hS dX1_mostThrough_66 (by (try dsimp only); unfold thH; rw [if_neg (by omega), if_pos (by omega), i63, i60, y51, y57, q4])
  · skip
    refine lv_iload_n hx hb dX1_mostThrough_17 rfl (lv_at hl 0 rfl) ?_
    refine lv_aload_n hx hb dX1_mostThrough_18 rfl (lv_at hl 1 rfl) ?_
    refine lv_iload_n hx hb dX1_mostThrough_19 rfl (lv_at hl 3 rfl) ?_
    refine c_iconst hx hb dX1_mostThrough_20 (by decide) (fun v20 i20 => ?_)
    refine c_wvi (As := [.int p2, .int v20]) (ci := 1) (q0 := 0) (kX1_mostRest l D cI ad f lo hi T Dv C Tn Dn Cn p2 v20 (t) (0) hT hDv hC hI (by omega) (by omega) (by omega) (by omega) hb1 hb2 hb3) ⟨hx, hb, hml, hown, hts⟩ (cwV 2 hts gX1_mostThrough_X1_mostRest rfl rfl rfl (by decide +kernel) ⟨Nat.le_of_ble_eq_true rfl, Nat.le_of_ble_eq_true rfl⟩) hK hP hD hS hA rfl rfl rfl rfl hl.1 rfl (Nat.le_of_ble_eq_true rfl) dX1_mostThrough_21 ⟨Nat.zero_le _, Nat.zero_le _⟩ (fun r21 u21 H locs q21 hP hD hS => ?_)
    try dsimp only at q21
    have hP : va_P D vwCl (WX cI ad f lo hi T Dv C) H := hP
    have hD : va_D A (WX cI ad f lo hi T Dv C) := hD
    have y21 : r21.toInt = rwX lo hi (t + 1) 1 - rwX lo hi t 0 - rwX lo hi 61 0 := q21
    refine lv_aload_n hx hb dX1_mostThrough_24 rfl (lv_at hl 1 rfl) ?_
    refine lv_iload_n hx hb dX1_mostThrough_25 rfl (lv_at hl 3 rfl) ?_
    refine c_iconst hx hb dX1_mostThrough_26 (by decide) (fun v26 i26 => ?_)
    refine c_wvi (As := [.int p2, .int v26]) (ci := 1) (q0 := 0) (kX1_mostRest l D cI ad f lo hi T Dv C Tn Dn Cn p2 v26 (t) (2) hT hDv hC hI (by omega) (by omega) (by omega) (by omega) hb1 hb2 hb3) ⟨hx, hb, hml, hown, hts⟩ (cwV 2 hts gX1_mostThrough_X1_mostRest rfl rfl rfl (by decide +kernel) ⟨Nat.le_of_ble_eq_true rfl, Nat.le_of_ble_eq_true rfl⟩) hK hP hD hS hA rfl rfl rfl rfl hl.1 rfl (Nat.le_of_ble_eq_true rfl) dX1_mostThrough_27 ⟨Nat.zero_le _, Nat.zero_le _⟩ (fun r27 u27 H locs q27 hP hD hS => ?_)
    try dsimp only at q27
    have hP : va_P D vwCl (WX cI ad f lo hi T Dv C) H := hP
    have hD : va_D A (WX cI ad f lo hi T Dv C) := hD
    have y27 : r27.toInt = rwX lo hi (t + 1) 5 - rwX lo hi t 4 - rwX lo hi 61 4 := q27
    refine c_mmin hx hb (hml.trans hl.1.symm) hown ml205 ms205 mi205 mc205 (Nat.le_of_ble_eq_true rfl) (Nat.le_of_ble_eq_true rfl) (Nat.zero_le _) (Nat.zero_le _) dX1_mostThrough_30 (fun v30 i30 => ?_)
    refine c_mmin hx hb (hml.trans hl.1.symm) hown ml205 ms205 mi205 mc205 (Nat.le_of_ble_eq_true rfl) (Nat.le_of_ble_eq_true rfl) (Nat.zero_le _) (Nat.zero_le _) dX1_mostThrough_33 (fun v33 i33 => ?_)
    exact c_ri () hx hb hr hlocks hK hP hD hS dX1_mostThrough_36 (by (try dsimp only); unfold thH; rw [if_pos (by omega), i33, i30, y21, y27, q4])
