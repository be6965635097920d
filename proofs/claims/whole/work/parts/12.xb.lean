set_option maxHeartbeats 4000000 in
set_option maxRecDepth 100000 in
theorem kX1_addDoor (l : Launch) (D : va_G) (cI : ClassId) (ad : Nat → Nat) (f : Nat → Nat → Int32) (lo : Nat → Int32) (hi : Nat → Int32) (T : Int32) (Dv : Int32) (C : Int32) (Tn : Nat) (Dn : Nat) (Cn : Nat) (p1 : Int32) (p2 : Int32) (p3 : Int32) (hT : T.toInt = (Tn : Int)) (hDv : Dv.toInt = (Dn : Int)) (hC : C.toInt = (Cn : Int)) (hI : Inv f Tn Dn Cn) (hk : 0 ≤ p1.toInt ∧ p1.toInt ≤ 2) (hl2 : -100000 ≤ p2.toInt ∧ p2.toInt ≤ 100000) (hl3 : -100000 ≤ p3.toInt ∧ p3.toInt ≤ 100000) (hb61 : bd (rwX lo hi 61) 1000000) : MV l yX1_addDoor wsX1_addDoor ({ frames := 2, cells := 0, slots := 0, locals := 46 } : Room) D [(cI, .int)] [.ref (ad 0), .int p1, .int p2, .int p3] (WX cI ad f lo hi T Dv C) (fun u : (Nat → Int32) × (Nat → Int32) => (WX cI ad f u.1 u.2 T Dv C)) (fun (u : (Nat → Int32) × (Nat → Int32)) => ad6 (rwX u.1 u.2 61) (rwX lo hi 61) p1.toInt p2.toInt p3.toInt ∧ ∀ j, j < 183 → u.1 j = lo j ∧ u.2 j = hi j) := by
  refine c_ent (cc := cX1_addDoor) (maxL := 4) (ret := none) (Qc := fun A => va_Qv (fun (u : (Nat → Int32) × (Nat → Int32)) => ad6 (rwX u.1 u.2 61) (rwX lo hi 61) p1.toInt p2.toInt p3.toInt ∧ ∀ j, j < 183 → u.1 j = lo j ∧ u.2 j = hi j) (cB D [(cI, .int)] A (fun u : (Nat → Int32) × (Nat → Int32) => (WX cI ad f u.1 u.2 T Dv C))) A) (by decide) rfl (Nat.le_of_ble_eq_true rfl) ?_
  intro p e s m below meth c A ls hx hb hr hlocks hts hown hml hK hP hD hA hl
  have hS : va_S A s.heap s.heap [] := va_S.rf
  have hl : lv_has ls 4 [(0, .ref (ad 0)), (1, .int p1), (2, .int p2), (3, .int p3)] := hl
  have hP : va_P D vwCl (WX cI ad f lo hi T Dv C) s.heap := hP
  have fl49 := hts (.fieldLink RX1 49 "DoorBench" "spans" "LDoorBench$Spans;") (by decide +kernel)
  have inX1 : ∀ w ∈ wsX10, w ∈ wsX1_addDoor := by decide +kernel
  obtain ⟨hI0, hId, hIr, hIs, hIc⟩ := id hI
  have z0 := bd_at hb61 (k := 0) (by omega)
  have z1 := bd_at hb61 (k := 1) (by omega)
  have z2 := bd_at hb61 (k := 2) (by omega)
  refine lv_iload_n hx hb dX1_addDoor_0 rfl (lv_at hl 1 rfl) ?_
  refine c_if_ne (tgt := 31) hx hb dX1_addDoor_1 (by decide) (fun c1 => ?_) (fun c1 => ?_)
  · skip
    refine lv_iload_n hx hb dX1_addDoor_31 rfl (lv_at hl 1 rfl) ?_
    refine c_iconst hx hb dX1_addDoor_32 (by decide) (fun v32 i32 => ?_)
    refine c_icmp_ne (tgt := 63) hx hb dX1_addDoor_33 (by decide) (fun c33 => ?_) (fun c33 => ?_)
    · skip
      refine lv_aload_n hx hb dX1_addDoor_63 rfl (lv_at hl 0 rfl) ?_
      refine va_get (D := D) (ci := 1) (v := .ref (ad 13)) (C := RX1) (T := TX1) (N := 16) hx hb hts inX1 hown hK hP 0 rfl rfl 12 (by decide) fl49 (fun _ h9 => h9) rfl dX1_addDoor_64 ?_
      refine c_bipush hx hb dX1_addDoor_67 (by decide) (fun v67 i67 => ?_)
      refine c_iconst hx hb dX1_addDoor_69 (by decide) (fun v69 i69 => ?_)
      refine lv_iload_n hx hb dX1_addDoor_70 rfl (lv_at hl 3 rfl) ?_
      refine c_ineg hx hb dX1_addDoor_71 (by omega) (fun v71 i71 => ?_)
      refine lv_iload_n hx hb dX1_addDoor_72 rfl (lv_at hl 2 rfl) ?_
      refine c_ineg hx hb dX1_addDoor_73 (by omega) (fun v73 i73 => ?_)
      refine c_cvv (As := [.int v67, .int v69, .int v71, .int v73]) (ci := 0) (q0 := 0) (wr := [((ad 0), .inr (1, [.ref (ad 1), .ref (ad 2), .ref (ad 3), .ref (ad 4), .ref (ad 5), .ref (ad 6), .ref (ad 7), .ref (ad 8), .ref (ad 9), .ref (ad 10), .ref (ad 11), .ref (ad 12), .ref (ad 13), .int T, .int Dv, .int C])), ((ad 1), .inl (cI, 6, .inl (f 0))), ((ad 2), .inl (cI, 6, .inl (f 1))), ((ad 3), .inl (cI, 6, .inl (f 2))), ((ad 4), .inl (cI, 6, .inl (f 3))), ((ad 5), .inl (cI, 360, .inl (f 4))), ((ad 6), .inl (cI, 360, .inl (f 5))), ((ad 7), .inl (cI, 2, .inl (f 6))), ((ad 8), .inl (cI, 2, .inl (f 7))), ((ad 9), .inl (cI, 20, .inl (f 8))), ((ad 10), .inl (cI, 20, .inl (f 9))), ((ad 11), .inl (cI, 20, .inl (f 10))), ((ad 12), .inl (cI, 20, .inl (f 11)))]) (wF := (fun u9 => (WX cI ad f (upd lo (3 * (61) + (0)) u9.1) (upd hi (3 * (61) + (0)) u9.2) T Dv C))) (kX0_widen l D cI ad lo hi v67 v69 v71 v73 (61) (0) (by omega) (by omega) (by omega) (by omega) (by omega) (by omega) (by omega) (by omega)) ⟨hx, hb, hml, hown, hts⟩ (cwV 4 hts gX1_addDoor_X0_widen rfl rfl rfl (by decide +kernel) ⟨Nat.le_of_ble_eq_true rfl, Nat.le_of_ble_eq_true rfl⟩) hK hP hD hS hA [13, 14, 15] [0, 1, 2, 3, 4, 5, 6, 7, 8, 9, 10, 11, 12] [0, 1, 2, 3, 4, 5, 6, 7, 8, 9, 10, 11, 12, 13, 14, 15] rfl (by decide) rfl (by decide) (by decide) (by decide) (fun _ => rfl) rfl rfl rfl rfl hl.1 rfl (Nat.le_of_ble_eq_true rfl) dX1_addDoor_74 ⟨Nat.zero_le _, Nat.zero_le _⟩ (fun u74 H locs q74 hP hD hS => ?_)
      try dsimp only at q74
      have hP : va_P D vwCl (WX cI ad f (upd lo (3 * (61) + (0)) u74.1) (upd hi (3 * (61) + (0)) u74.2) T Dv C) H := hP
      have hD : va_D A (WX cI ad f (upd lo (3 * (61) + (0)) u74.1) (upd hi (3 * (61) + (0)) u74.2) T Dv C) := hD
      refine lv_aload_n hx hb dX1_addDoor_77 rfl (lv_at hl 0 rfl) ?_
      refine va_get (D := D) (ci := 1) (v := .ref (ad 13)) (C := RX1) (T := TX1) (N := 16) hx hb hts inX1 hown hK hP 0 rfl rfl 12 (by decide) fl49 (fun _ h9 => h9) rfl dX1_addDoor_78 ?_
      refine c_bipush hx hb dX1_addDoor_81 (by decide) (fun v81 i81 => ?_)
      refine c_iconst hx hb dX1_addDoor_83 (by decide) (fun v83 i83 => ?_)
      refine lv_iload_n hx hb dX1_addDoor_84 rfl (lv_at hl 2 rfl) ?_
      refine lv_iload_n hx hb dX1_addDoor_85 rfl (lv_at hl 3 rfl) ?_
      refine c_cvv (As := [.int v81, .int v83, .int p2, .int p3]) (ci := 0) (q0 := 0) (wr := [((ad 0), .inr (1, [.ref (ad 1), .ref (ad 2), .ref (ad 3), .ref (ad 4), .ref (ad 5), .ref (ad 6), .ref (ad 7), .ref (ad 8), .ref (ad 9), .ref (ad 10), .ref (ad 11), .ref (ad 12), .ref (ad 13), .int T, .int Dv, .int C])), ((ad 1), .inl (cI, 6, .inl (f 0))), ((ad 2), .inl (cI, 6, .inl (f 1))), ((ad 3), .inl (cI, 6, .inl (f 2))), ((ad 4), .inl (cI, 6, .inl (f 3))), ((ad 5), .inl (cI, 360, .inl (f 4))), ((ad 6), .inl (cI, 360, .inl (f 5))), ((ad 7), .inl (cI, 2, .inl (f 6))), ((ad 8), .inl (cI, 2, .inl (f 7))), ((ad 9), .inl (cI, 20, .inl (f 8))), ((ad 10), .inl (cI, 20, .inl (f 9))), ((ad 11), .inl (cI, 20, .inl (f 10))), ((ad 12), .inl (cI, 20, .inl (f 11)))]) (wF := (fun u9 => (WX cI ad f (upd (upd lo (3 * (61) + (0)) u74.1) (3 * (61) + (1)) u9.1) (upd (upd hi (3 * (61) + (0)) u74.2) (3 * (61) + (1)) u9.2) T Dv C))) (kX0_widen l D cI ad (upd lo (3 * (61) + (0)) u74.1) (upd hi (3 * (61) + (0)) u74.2) v81 v83 p2 p3 (61) (1) (by omega) (by omega) (by omega) (by omega) (by rw [pk_un (by omega)]; omega) (by rw [pk_un (by omega)]; omega) (by omega) (by omega)) ⟨hx, hb, hml, hown, hts⟩ (cwV 4 hts gX1_addDoor_X0_widen rfl rfl rfl (by decide +kernel) ⟨Nat.le_of_ble_eq_true rfl, Nat.le_of_ble_eq_true rfl⟩) hK hP hD hS hA [13, 14, 15] [0, 1, 2, 3, 4, 5, 6, 7, 8, 9, 10, 11, 12] [0, 1, 2, 3, 4, 5, 6, 7, 8, 9, 10, 11, 12, 13, 14, 15] rfl (by decide) rfl (by decide) (by decide) (by decide) (fun _ => rfl) rfl rfl rfl rfl hl.1 rfl (Nat.le_of_ble_eq_true rfl) dX1_addDoor_86 ⟨Nat.zero_le _, Nat.zero_le _⟩ (fun u86 H locs q86 hP hD hS => ?_)
      try dsimp only at q86
      have hP : va_P D vwCl (WX cI ad f (upd (upd lo (3 * (61) + (0)) u74.1) (3 * (61) + (1)) u86.1) (upd (upd hi (3 * (61) + (0)) u74.2) (3 * (61) + (1)) u86.2) T Dv C) H := hP
      have hD : va_D A (WX cI ad f (upd (upd lo (3 * (61) + (0)) u74.1) (3 * (61) + (1)) u86.1) (upd (upd hi (3 * (61) + (0)) u74.2) (3 * (61) + (1)) u86.2) T Dv C) := hD
      rw [pk_un (by omega), pk_un (by omega)] at q86
      exact c_rv ((upd (upd lo (3 * (61) + (0)) u74.1) (3 * (61) + (1)) u86.1), (upd (upd hi (3 * (61) + (0)) u74.2) (3 * (61) + (1)) u86.2)) hx hb hr hlocks hK hP hD hS dX1_addDoor_89 (by
            have g0 : rwX (upd (upd lo (3 * (61) + (0)) u74.1) (3 * (61) + (1)) u86.1) (upd (upd hi (3 * (61) + (0)) u74.2) (3 * (61) + (1)) u86.2) 61 0 = u74.1.toInt := by
              show ((upd (upd lo (3 * (61) + (0)) u74.1) (3 * (61) + (1)) u86.1) (3 * 61 + 0)).toInt = _
              rw [pk_un (by omega), pk_us]
            have g1 : rwX (upd (upd lo (3 * (61) + (0)) u74.1) (3 * (61) + (1)) u86.1) (upd (upd hi (3 * (61) + (0)) u74.2) (3 * (61) + (1)) u86.2) 61 1 = u74.2.toInt := by
              show ((upd (upd hi (3 * (61) + (0)) u74.2) (3 * (61) + (1)) u86.2) (3 * 61 + 0)).toInt = _
              rw [pk_un (by omega), pk_us]
            have g2 : rwX (upd (upd lo (3 * (61) + (0)) u74.1) (3 * (61) + (1)) u86.1) (upd (upd hi (3 * (61) + (0)) u74.2) (3 * (61) + (1)) u86.2) 61 2 = u86.1.toInt := by
              show ((upd (upd lo (3 * (61) + (0)) u74.1) (3 * (61) + (1)) u86.1) (3 * 61 + 1)).toInt = _
              rw [pk_us]
            have g3 : rwX (upd (upd lo (3 * (61) + (0)) u74.1) (3 * (61) + (1)) u86.1) (upd (upd hi (3 * (61) + (0)) u74.2) (3 * (61) + (1)) u86.2) 61 3 = u86.2.toInt := by
              show ((upd (upd hi (3 * (61) + (0)) u74.2) (3 * (61) + (1)) u86.2) (3 * 61 + 1)).toInt = _
              rw [pk_us]
            have g4 : rwX (upd (upd lo (3 * (61) + (0)) u74.1) (3 * (61) + (1)) u86.1) (upd (upd hi (3 * (61) + (0)) u74.2) (3 * (61) + (1)) u86.2) 61 4 = rwX lo hi 61 4 := by
              show ((upd (upd lo (3 * (61) + (0)) u74.1) (3 * (61) + (1)) u86.1) (3 * 61 + 2)).toInt = _
              rw [pk_un (by omega), pk_un (by omega)]; rfl
            have g5 : rwX (upd (upd lo (3 * (61) + (0)) u74.1) (3 * (61) + (1)) u86.1) (upd (upd hi (3 * (61) + (0)) u74.2) (3 * (61) + (1)) u86.2) 61 5 = rwX lo hi 61 5 := by
              show ((upd (upd hi (3 * (61) + (0)) u74.2) (3 * (61) + (1)) u86.2) (3 * 61 + 2)).toInt = _
              rw [pk_un (by omega), pk_un (by omega)]; rfl
            have t0 : rwX lo hi 61 0 = (lo (3 * 61 + 0)).toInt := rfl
            have t1 : rwX lo hi 61 1 = (hi (3 * 61 + 0)).toInt := rfl
            have t2 : rwX lo hi 61 2 = (lo (3 * 61 + 1)).toInt := rfl
            have t3 : rwX lo hi 61 3 = (hi (3 * 61 + 1)).toInt := rfl
            have t4 : rwX lo hi 61 4 = (lo (3 * 61 + 2)).toInt := rfl
            have t5 : rwX lo hi 61 5 = (hi (3 * 61 + 2)).toInt := rfl
            refine ⟨by (try dsimp only); unfold ad6; omega, fun j hj => ⟨?_, ?_⟩⟩
            · (try dsimp only); rw [pk_un (by omega), pk_un (by omega)]
            · (try dsimp only); rw [pk_un (by omega), pk_un (by omega)])
    · skip
      refine lv_aload_n hx hb dX1_addDoor_36 rfl (lv_at hl 0 rfl) ?_
      refine va_get (D := D) (ci := 1) (v := .ref (ad 13)) (C := RX1) (T := TX1) (N := 16) hx hb hts inX1 hown hK hP 0 rfl rfl 12 (by decide) fl49 (fun _ h9 => h9) rfl dX1_addDoor_37 ?_
      refine c_bipush hx hb dX1_addDoor_40 (by decide) (fun v40 i40 => ?_)
      refine c_iconst hx hb dX1_addDoor_42 (by decide) (fun v42 i42 => ?_)
      refine lv_iload_n hx hb dX1_addDoor_43 rfl (lv_at hl 2 rfl) ?_
      refine lv_iload_n hx hb dX1_addDoor_44 rfl (lv_at hl 3 rfl) ?_
      refine c_cvv (As := [.int v40, .int v42, .int p2, .int p3]) (ci := 0) (q0 := 0) (wr := [((ad 0), .inr (1, [.ref (ad 1), .ref (ad 2), .ref (ad 3), .ref (ad 4), .ref (ad 5), .ref (ad 6), .ref (ad 7), .ref (ad 8), .ref (ad 9), .ref (ad 10), .ref (ad 11), .ref (ad 12), .ref (ad 13), .int T, .int Dv, .int C])), ((ad 1), .inl (cI, 6, .inl (f 0))), ((ad 2), .inl (cI, 6, .inl (f 1))), ((ad 3), .inl (cI, 6, .inl (f 2))), ((ad 4), .inl (cI, 6, .inl (f 3))), ((ad 5), .inl (cI, 360, .inl (f 4))), ((ad 6), .inl (cI, 360, .inl (f 5))), ((ad 7), .inl (cI, 2, .inl (f 6))), ((ad 8), .inl (cI, 2, .inl (f 7))), ((ad 9), .inl (cI, 20, .inl (f 8))), ((ad 10), .inl (cI, 20, .inl (f 9))), ((ad 11), .inl (cI, 20, .inl (f 10))), ((ad 12), .inl (cI, 20, .inl (f 11)))]) (wF := (fun u9 => (WX cI ad f (upd lo (3 * (61) + (1)) u9.1) (upd hi (3 * (61) + (1)) u9.2) T Dv C))) (kX0_widen l D cI ad lo hi v40 v42 p2 p3 (61) (1) (by omega) (by omega) (by omega) (by omega) (by omega) (by omega) (by omega) (by omega)) ⟨hx, hb, hml, hown, hts⟩ (cwV 4 hts gX1_addDoor_X0_widen rfl rfl rfl (by decide +kernel) ⟨Nat.le_of_ble_eq_true rfl, Nat.le_of_ble_eq_true rfl⟩) hK hP hD hS hA [13, 14, 15] [0, 1, 2, 3, 4, 5, 6, 7, 8, 9, 10, 11, 12] [0, 1, 2, 3, 4, 5, 6, 7, 8, 9, 10, 11, 12, 13, 14, 15] rfl (by decide) rfl (by decide) (by decide) (by decide) (fun _ => rfl) rfl rfl rfl rfl hl.1 rfl (Nat.le_of_ble_eq_true rfl) dX1_addDoor_45 ⟨Nat.zero_le _, Nat.zero_le _⟩ (fun u45 H locs q45 hP hD hS => ?_)
      try dsimp only at q45
      have hP : va_P D vwCl (WX cI ad f (upd lo (3 * (61) + (1)) u45.1) (upd hi (3 * (61) + (1)) u45.2) T Dv C) H := hP
      have hD : va_D A (WX cI ad f (upd lo (3 * (61) + (1)) u45.1) (upd hi (3 * (61) + (1)) u45.2) T Dv C) := hD
      refine lv_aload_n hx hb dX1_addDoor_48 rfl (lv_at hl 0 rfl) ?_
      refine va_get (D := D) (ci := 1) (v := .ref (ad 13)) (C := RX1) (T := TX1) (N := 16) hx hb hts inX1 hown hK hP 0 rfl rfl 12 (by decide) fl49 (fun _ h9 => h9) rfl dX1_addDoor_49 ?_
      refine c_bipush hx hb dX1_addDoor_52 (by decide) (fun v52 i52 => ?_)
      refine c_iconst hx hb dX1_addDoor_54 (by decide) (fun v54 i54 => ?_)
      refine lv_iload_n hx hb dX1_addDoor_55 rfl (lv_at hl 2 rfl) ?_
      refine lv_iload_n hx hb dX1_addDoor_56 rfl (lv_at hl 3 rfl) ?_
      refine c_cvv (As := [.int v52, .int v54, .int p2, .int p3]) (ci := 0) (q0 := 0) (wr := [((ad 0), .inr (1, [.ref (ad 1), .ref (ad 2), .ref (ad 3), .ref (ad 4), .ref (ad 5), .ref (ad 6), .ref (ad 7), .ref (ad 8), .ref (ad 9), .ref (ad 10), .ref (ad 11), .ref (ad 12), .ref (ad 13), .int T, .int Dv, .int C])), ((ad 1), .inl (cI, 6, .inl (f 0))), ((ad 2), .inl (cI, 6, .inl (f 1))), ((ad 3), .inl (cI, 6, .inl (f 2))), ((ad 4), .inl (cI, 6, .inl (f 3))), ((ad 5), .inl (cI, 360, .inl (f 4))), ((ad 6), .inl (cI, 360, .inl (f 5))), ((ad 7), .inl (cI, 2, .inl (f 6))), ((ad 8), .inl (cI, 2, .inl (f 7))), ((ad 9), .inl (cI, 20, .inl (f 8))), ((ad 10), .inl (cI, 20, .inl (f 9))), ((ad 11), .inl (cI, 20, .inl (f 10))), ((ad 12), .inl (cI, 20, .inl (f 11)))]) (wF := (fun u9 => (WX cI ad f (upd (upd lo (3 * (61) + (1)) u45.1) (3 * (61) + (2)) u9.1) (upd (upd hi (3 * (61) + (1)) u45.2) (3 * (61) + (2)) u9.2) T Dv C))) (kX0_widen l D cI ad (upd lo (3 * (61) + (1)) u45.1) (upd hi (3 * (61) + (1)) u45.2) v52 v54 p2 p3 (61) (2) (by omega) (by omega) (by omega) (by omega) (by rw [pk_un (by omega)]; omega) (by rw [pk_un (by omega)]; omega) (by omega) (by omega)) ⟨hx, hb, hml, hown, hts⟩ (cwV 4 hts gX1_addDoor_X0_widen rfl rfl rfl (by decide +kernel) ⟨Nat.le_of_ble_eq_true rfl, Nat.le_of_ble_eq_true rfl⟩) hK hP hD hS hA [13, 14, 15] [0, 1, 2, 3, 4, 5, 6, 7, 8, 9, 10, 11, 12] [0, 1, 2, 3, 4, 5, 6, 7, 8, 9, 10, 11, 12, 13, 14, 15] rfl (by decide) rfl (by decide) (by decide) (by decide) (fun _ => rfl) rfl rfl rfl rfl hl.1 rfl (Nat.le_of_ble_eq_true rfl) dX1_addDoor_57 ⟨Nat.zero_le _, Nat.zero_le _⟩ (fun u57 H locs q57 hP hD hS => ?_)
      try dsimp only at q57
      have hP : va_P D vwCl (WX cI ad f (upd (upd lo (3 * (61) + (1)) u45.1) (3 * (61) + (2)) u57.1) (upd (upd hi (3 * (61) + (1)) u45.2) (3 * (61) + (2)) u57.2) T Dv C) H := hP
      have hD : va_D A (WX cI ad f (upd (upd lo (3 * (61) + (1)) u45.1) (3 * (61) + (2)) u57.1) (upd (upd hi (3 * (61) + (1)) u45.2) (3 * (61) + (2)) u57.2) T Dv C) := hD
      rw [pk_un (by omega), pk_un (by omega)] at q57
      refine lv_goto (tgt := 89) hx hb dX1_addDoor_60 (by decide) ?_
      exact c_rv ((upd (upd lo (3 * (61) + (1)) u45.1) (3 * (61) + (2)) u57.1), (upd (upd hi (3 * (61) + (1)) u45.2) (3 * (61) + (2)) u57.2)) hx hb hr hlocks hK hP hD hS dX1_addDoor_89 (by
            have g0 : rwX (upd (upd lo (3 * (61) + (1)) u45.1) (3 * (61) + (2)) u57.1) (upd (upd hi (3 * (61) + (1)) u45.2) (3 * (61) + (2)) u57.2) 61 0 = rwX lo hi 61 0 := by
              show ((upd (upd lo (3 * (61) + (1)) u45.1) (3 * (61) + (2)) u57.1) (3 * 61 + 0)).toInt = _
              rw [pk_un (by omega), pk_un (by omega)]; rfl
            have g1 : rwX (upd (upd lo (3 * (61) + (1)) u45.1) (3 * (61) + (2)) u57.1) (upd (upd hi (3 * (61) + (1)) u45.2) (3 * (61) + (2)) u57.2) 61 1 = rwX lo hi 61 1 := by
              show ((upd (upd hi (3 * (61) + (1)) u45.2) (3 * (61) + (2)) u57.2) (3 * 61 + 0)).toInt = _
              rw [pk_un (by omega), pk_un (by omega)]; rfl
            have g2 : rwX (upd (upd lo (3 * (61) + (1)) u45.1) (3 * (61) + (2)) u57.1) (upd (upd hi (3 * (61) + (1)) u45.2) (3 * (61) + (2)) u57.2) 61 2 = u45.1.toInt := by
              show ((upd (upd lo (3 * (61) + (1)) u45.1) (3 * (61) + (2)) u57.1) (3 * 61 + 1)).toInt = _
              rw [pk_un (by omega), pk_us]
            have g3 : rwX (upd (upd lo (3 * (61) + (1)) u45.1) (3 * (61) + (2)) u57.1) (upd (upd hi (3 * (61) + (1)) u45.2) (3 * (61) + (2)) u57.2) 61 3 = u45.2.toInt := by
              show ((upd (upd hi (3 * (61) + (1)) u45.2) (3 * (61) + (2)) u57.2) (3 * 61 + 1)).toInt = _
              rw [pk_un (by omega), pk_us]
            have g4 : rwX (upd (upd lo (3 * (61) + (1)) u45.1) (3 * (61) + (2)) u57.1) (upd (upd hi (3 * (61) + (1)) u45.2) (3 * (61) + (2)) u57.2) 61 4 = u57.1.toInt := by
              show ((upd (upd lo (3 * (61) + (1)) u45.1) (3 * (61) + (2)) u57.1) (3 * 61 + 2)).toInt = _
              rw [pk_us]
            have g5 : rwX (upd (upd lo (3 * (61) + (1)) u45.1) (3 * (61) + (2)) u57.1) (upd (upd hi (3 * (61) + (1)) u45.2) (3 * (61) + (2)) u57.2) 61 5 = u57.2.toInt := by
              show ((upd (upd hi (3 * (61) + (1)) u45.2) (3 * (61) + (2)) u57.2) (3 * 61 + 2)).toInt = _
              rw [pk_us]
            have t0 : rwX lo hi 61 0 = (lo (3 * 61 + 0)).toInt := rfl
            have t1 : rwX lo hi 61 1 = (hi (3 * 61 + 0)).toInt := rfl
            have t2 : rwX lo hi 61 2 = (lo (3 * 61 + 1)).toInt := rfl
            have t3 : rwX lo hi 61 3 = (hi (3 * 61 + 1)).toInt := rfl
            have t4 : rwX lo hi 61 4 = (lo (3 * 61 + 2)).toInt := rfl
            have t5 : rwX lo hi 61 5 = (hi (3 * 61 + 2)).toInt := rfl
            refine ⟨by (try dsimp only); unfold ad6; omega, fun j hj => ⟨?_, ?_⟩⟩
            · (try dsimp only); rw [pk_un (by omega), pk_un (by omega)]
            · (try dsimp only); rw [pk_un (by omega), pk_un (by omega)])
  · skip
    refine lv_aload_n hx hb dX1_addDoor_4 rfl (lv_at hl 0 rfl) ?_
    refine va_get (D := D) (ci := 1) (v := .ref (ad 13)) (C := RX1) (T := TX1) (N := 16) hx hb hts inX1 hown hK hP 0 rfl rfl 12 (by decide) fl49 (fun _ h9 => h9) rfl dX1_addDoor_5 ?_
    refine c_bipush hx hb dX1_addDoor_8 (by decide) (fun v8 i8 => ?_)
    refine c_iconst hx hb dX1_addDoor_10 (by decide) (fun v10 i10 => ?_)
    refine lv_iload_n hx hb dX1_addDoor_11 rfl (lv_at hl 2 rfl) ?_
    refine lv_iload_n hx hb dX1_addDoor_12 rfl (lv_at hl 3 rfl) ?_
    refine c_cvv (As := [.int v8, .int v10, .int p2, .int p3]) (ci := 0) (q0 := 0) (wr := [((ad 0), .inr (1, [.ref (ad 1), .ref (ad 2), .ref (ad 3), .ref (ad 4), .ref (ad 5), .ref (ad 6), .ref (ad 7), .ref (ad 8), .ref (ad 9), .ref (ad 10), .ref (ad 11), .ref (ad 12), .ref (ad 13), .int T, .int Dv, .int C])), ((ad 1), .inl (cI, 6, .inl (f 0))), ((ad 2), .inl (cI, 6, .inl (f 1))), ((ad 3), .inl (cI, 6, .inl (f 2))), ((ad 4), .inl (cI, 6, .inl (f 3))), ((ad 5), .inl (cI, 360, .inl (f 4))), ((ad 6), .inl (cI, 360, .inl (f 5))), ((ad 7), .inl (cI, 2, .inl (f 6))), ((ad 8), .inl (cI, 2, .inl (f 7))), ((ad 9), .inl (cI, 20, .inl (f 8))), ((ad 10), .inl (cI, 20, .inl (f 9))), ((ad 11), .inl (cI, 20, .inl (f 10))), ((ad 12), .inl (cI, 20, .inl (f 11)))]) (wF := (fun u9 => (WX cI ad f (upd lo (3 * (61) + (0)) u9.1) (upd hi (3 * (61) + (0)) u9.2) T Dv C))) (kX0_widen l D cI ad lo hi v8 v10 p2 p3 (61) (0) (by omega) (by omega) (by omega) (by omega) (by omega) (by omega) (by omega) (by omega)) ⟨hx, hb, hml, hown, hts⟩ (cwV 4 hts gX1_addDoor_X0_widen rfl rfl rfl (by decide +kernel) ⟨Nat.le_of_ble_eq_true rfl, Nat.le_of_ble_eq_true rfl⟩) hK hP hD hS hA [13, 14, 15] [0, 1, 2, 3, 4, 5, 6, 7, 8, 9, 10, 11, 12] [0, 1, 2, 3, 4, 5, 6, 7, 8, 9, 10, 11, 12, 13, 14, 15] rfl (by decide) rfl (by decide) (by decide) (by decide) (fun _ => rfl) rfl rfl rfl rfl hl.1 rfl (Nat.le_of_ble_eq_true rfl) dX1_addDoor_13 ⟨Nat.zero_le _, Nat.zero_le _⟩ (fun u13 H locs q13 hP hD hS => ?_)
    try dsimp only at q13
    have hP : va_P D vwCl (WX cI ad f (upd lo (3 * (61) + (0)) u13.1) (upd hi (3 * (61) + (0)) u13.2) T Dv C) H := hP
    have hD : va_D A (WX cI ad f (upd lo (3 * (61) + (0)) u13.1) (upd hi (3 * (61) + (0)) u13.2) T Dv C) := hD
    refine lv_aload_n hx hb dX1_addDoor_16 rfl (lv_at hl 0 rfl) ?_
    refine va_get (D := D) (ci := 1) (v := .ref (ad 13)) (C := RX1) (T := TX1) (N := 16) hx hb hts inX1 hown hK hP 0 rfl rfl 12 (by decide) fl49 (fun _ h9 => h9) rfl dX1_addDoor_17 ?_
    refine c_bipush hx hb dX1_addDoor_20 (by decide) (fun v20 i20 => ?_)
    refine c_iconst hx hb dX1_addDoor_22 (by decide) (fun v22 i22 => ?_)
    refine lv_iload_n hx hb dX1_addDoor_23 rfl (lv_at hl 2 rfl) ?_
    refine lv_iload_n hx hb dX1_addDoor_24 rfl (lv_at hl 3 rfl) ?_
    refine c_cvv (As := [.int v20, .int v22, .int p2, .int p3]) (ci := 0) (q0 := 0) (wr := [((ad 0), .inr (1, [.ref (ad 1), .ref (ad 2), .ref (ad 3), .ref (ad 4), .ref (ad 5), .ref (ad 6), .ref (ad 7), .ref (ad 8), .ref (ad 9), .ref (ad 10), .ref (ad 11), .ref (ad 12), .ref (ad 13), .int T, .int Dv, .int C])), ((ad 1), .inl (cI, 6, .inl (f 0))), ((ad 2), .inl (cI, 6, .inl (f 1))), ((ad 3), .inl (cI, 6, .inl (f 2))), ((ad 4), .inl (cI, 6, .inl (f 3))), ((ad 5), .inl (cI, 360, .inl (f 4))), ((ad 6), .inl (cI, 360, .inl (f 5))), ((ad 7), .inl (cI, 2, .inl (f 6))), ((ad 8), .inl (cI, 2, .inl (f 7))), ((ad 9), .inl (cI, 20, .inl (f 8))), ((ad 10), .inl (cI, 20, .inl (f 9))), ((ad 11), .inl (cI, 20, .inl (f 10))), ((ad 12), .inl (cI, 20, .inl (f 11)))]) (wF := (fun u9 => (WX cI ad f (upd (upd lo (3 * (61) + (0)) u13.1) (3 * (61) + (2)) u9.1) (upd (upd hi (3 * (61) + (0)) u13.2) (3 * (61) + (2)) u9.2) T Dv C))) (kX0_widen l D cI ad (upd lo (3 * (61) + (0)) u13.1) (upd hi (3 * (61) + (0)) u13.2) v20 v22 p2 p3 (61) (2) (by omega) (by omega) (by omega) (by omega) (by rw [pk_un (by omega)]; omega) (by rw [pk_un (by omega)]; omega) (by omega) (by omega)) ⟨hx, hb, hml, hown, hts⟩ (cwV 4 hts gX1_addDoor_X0_widen rfl rfl rfl (by decide +kernel) ⟨Nat.le_of_ble_eq_true rfl, Nat.le_of_ble_eq_true rfl⟩) hK hP hD hS hA [13, 14, 15] [0, 1, 2, 3, 4, 5, 6, 7, 8, 9, 10, 11, 12] [0, 1, 2, 3, 4, 5, 6, 7, 8, 9, 10, 11, 12, 13, 14, 15] rfl (by decide) rfl (by decide) (by decide) (by decide) (fun _ => rfl) rfl rfl rfl rfl hl.1 rfl (Nat.le_of_ble_eq_true rfl) dX1_addDoor_25 ⟨Nat.zero_le _, Nat.zero_le _⟩ (fun u25 H locs q25 hP hD hS => ?_)
    try dsimp only at q25
    have hP : va_P D vwCl (WX cI ad f (upd (upd lo (3 * (61) + (0)) u13.1) (3 * (61) + (2)) u25.1) (upd (upd hi (3 * (61) + (0)) u13.2) (3 * (61) + (2)) u25.2) T Dv C) H := hP
    have hD : va_D A (WX cI ad f (upd (upd lo (3 * (61) + (0)) u13.1) (3 * (61) + (2)) u25.1) (upd (upd hi (3 * (61) + (0)) u13.2) (3 * (61) + (2)) u25.2) T Dv C) := hD
    rw [pk_un (by omega), pk_un (by omega)] at q25
    refine lv_goto (tgt := 89) hx hb dX1_addDoor_28 (by decide) ?_
    exact c_rv ((upd (upd lo (3 * (61) + (0)) u13.1) (3 * (61) + (2)) u25.1), (upd (upd hi (3 * (61) + (0)) u13.2) (3 * (61) + (2)) u25.2)) hx hb hr hlocks hK hP hD hS dX1_addDoor_89 (by
          have g0 : rwX (upd (upd lo (3 * (61) + (0)) u13.1) (3 * (61) + (2)) u25.1) (upd (upd hi (3 * (61) + (0)) u13.2) (3 * (61) + (2)) u25.2) 61 0 = u13.1.toInt := by
            show ((upd (upd lo (3 * (61) + (0)) u13.1) (3 * (61) + (2)) u25.1) (3 * 61 + 0)).toInt = _
            rw [pk_un (by omega), pk_us]
          have g1 : rwX (upd (upd lo (3 * (61) + (0)) u13.1) (3 * (61) + (2)) u25.1) (upd (upd hi (3 * (61) + (0)) u13.2) (3 * (61) + (2)) u25.2) 61 1 = u13.2.toInt := by
            show ((upd (upd hi (3 * (61) + (0)) u13.2) (3 * (61) + (2)) u25.2) (3 * 61 + 0)).toInt = _
            rw [pk_un (by omega), pk_us]
          have g2 : rwX (upd (upd lo (3 * (61) + (0)) u13.1) (3 * (61) + (2)) u25.1) (upd (upd hi (3 * (61) + (0)) u13.2) (3 * (61) + (2)) u25.2) 61 2 = rwX lo hi 61 2 := by
            show ((upd (upd lo (3 * (61) + (0)) u13.1) (3 * (61) + (2)) u25.1) (3 * 61 + 1)).toInt = _
            rw [pk_un (by omega), pk_un (by omega)]; rfl
          have g3 : rwX (upd (upd lo (3 * (61) + (0)) u13.1) (3 * (61) + (2)) u25.1) (upd (upd hi (3 * (61) + (0)) u13.2) (3 * (61) + (2)) u25.2) 61 3 = rwX lo hi 61 3 := by
            show ((upd (upd hi (3 * (61) + (0)) u13.2) (3 * (61) + (2)) u25.2) (3 * 61 + 1)).toInt = _
            rw [pk_un (by omega), pk_un (by omega)]; rfl
          have g4 : rwX (upd (upd lo (3 * (61) + (0)) u13.1) (3 * (61) + (2)) u25.1) (upd (upd hi (3 * (61) + (0)) u13.2) (3 * (61) + (2)) u25.2) 61 4 = u25.1.toInt := by
            show ((upd (upd lo (3 * (61) + (0)) u13.1) (3 * (61) + (2)) u25.1) (3 * 61 + 2)).toInt = _
            rw [pk_us]
          have g5 : rwX (upd (upd lo (3 * (61) + (0)) u13.1) (3 * (61) + (2)) u25.1) (upd (upd hi (3 * (61) + (0)) u13.2) (3 * (61) + (2)) u25.2) 61 5 = u25.2.toInt := by
            show ((upd (upd hi (3 * (61) + (0)) u13.2) (3 * (61) + (2)) u25.2) (3 * 61 + 2)).toInt = _
            rw [pk_us]
          have t0 : rwX lo hi 61 0 = (lo (3 * 61 + 0)).toInt := rfl
          have t1 : rwX lo hi 61 1 = (hi (3 * 61 + 0)).toInt := rfl
          have t2 : rwX lo hi 61 2 = (lo (3 * 61 + 1)).toInt := rfl
          have t3 : rwX lo hi 61 3 = (hi (3 * 61 + 1)).toInt := rfl
          have t4 : rwX lo hi 61 4 = (lo (3 * 61 + 2)).toInt := rfl
          have t5 : rwX lo hi 61 5 = (hi (3 * 61 + 2)).toInt := rfl
          refine ⟨by (try dsimp only); unfold ad6; omega, fun j hj => ⟨?_, ?_⟩⟩
          · (try dsimp only); rw [pk_un (by omega), pk_un (by omega)]
          · (try dsimp only); rw [pk_un (by omega), pk_un (by omega)])
set_option maxHeartbeats 4000000 in
set_option maxRecDepth 100000 in
theorem kX1_gatherChange (l : Launch) (D : va_G) (cI : ClassId) (ad : Nat → Nat) (f : Nat → Nat → Int32) (lo : Nat → Int32) (hi : Nat → Int32) (T : Int32) (Dv : Int32) (C : Int32) (Tn : Nat) (Dn : Nat) (Cn : Nat) (p1 : Int32) (p2 : Int32) (p3 : Int32) (t : Nat) (hT : T.toInt = (Tn : Int)) (hDv : Dv.toInt = (Dn : Int)) (hC : C.toInt = (Cn : Int)) (hI : Inv f Tn Dn Cn) (ht : p1.toInt = (t : Int)) (htn : t < Tn) (hm : 0 ≤ p2.toInt ∧ p2.toInt ≤ 5) : MV l yX1_gatherChange wsX1_gatherChange ({ frames := 3, cells := 0, slots := 0, locals := 69 } : Room) D [(cI, .int)] [.ref (ad 0), .int p1, .int p2, .int p3] (WX cI ad f lo hi T Dv C) (fun u : (Nat → Int32) × (Nat → Int32) => (WX cI ad f u.1 u.2 T Dv C)) (fun (u : (Nat → Int32) × (Nat → Int32)) => eq6 (rwX u.1 u.2 61) (crow (mvs f t p2.toInt p3.toInt Dn)) ∧ ∀ j, j < 183 → u.1 j = lo j ∧ u.2 j = hi j) := by
  refine c_ent (cc := cX1_gatherChange) (maxL := 5) (ret := none) (Qc := fun A => va_Qv (fun (u : (Nat → Int32) × (Nat → Int32)) => eq6 (rwX u.1 u.2 61) (crow (mvs f t p2.toInt p3.toInt Dn)) ∧ ∀ j, j < 183 → u.1 j = lo j ∧ u.2 j = hi j) (cB D [(cI, .int)] A (fun u : (Nat → Int32) × (Nat → Int32) => (WX cI ad f u.1 u.2 T Dv C))) A) (by decide) rfl (Nat.le_of_ble_eq_true rfl) ?_
  intro p e s m below meth c A ls hx hb hr hlocks hts hown hml hK hP hD hA hl
  have hS : va_S A s.heap s.heap [] := va_S.rf
  have hl : lv_has ls 5 [(0, .ref (ad 0)), (1, .int p1), (2, .int p2), (3, .int p3)] := hl
  have hP : va_P D vwCl (WX cI ad f lo hi T Dv C) s.heap := hP
  have fl9 := hts (.fieldLink RX1 9 "DoorBench" "kinds" "[I") (by decide +kernel)
  have fl49 := hts (.fieldLink RX1 49 "DoorBench" "spans" "LDoorBench$Spans;") (by decide +kernel)
  have fl61 := hts (.fieldLink RX1 61 "DoorBench" "doors" "I") (by decide +kernel)
  have inX1 : ∀ w ∈ wsX10, w ∈ wsX1_gatherChange := by decide +kernel
  obtain ⟨hI0, hId, hIr, hIs, hIc⟩ := id hI
  refine c_iconst hx hb dX1_gatherChange_0 (by decide) (fun v0 i0 => ?_)
  refine lv_istore (lv' := [(4, .int v0), (0, .ref (ad 0)), (1, .int p1), (2, .int p2), (3, .int p3)]) hx hb dX1_gatherChange_1 hl (by decide) rfl (fun ls hl => ?_)
  refine lv_iload hx hb dX1_gatherChange_3 (lv_at hl 0 rfl) ?_
  refine c_iconst hx hb dX1_gatherChange_5 (by decide) (fun v5 i5 => ?_)
  refine c_icmp_ge (tgt := 28) hx hb dX1_gatherChange_6 (by decide) (fun c6 => absurd c6 (by omega)) (fun c6 => ?_)
  refine lv_aload_n hx hb dX1_gatherChange_9 rfl (lv_at hl 1 rfl) ?_
  refine va_get (D := D) (ci := 1) (v := .ref (ad 13)) (C := RX1) (T := TX1) (N := 16) hx hb hts inX1 hown hK hP 0 rfl rfl 12 (by decide) fl49 (fun _ h9 => h9) rfl dX1_gatherChange_10 ?_
  refine c_bipush hx hb dX1_gatherChange_13 (by decide) (fun v13 i13 => ?_)
  refine lv_iload hx hb dX1_gatherChange_15 (lv_at hl 0 rfl) ?_
  refine c_iconst hx hb dX1_gatherChange_17 (by decide) (fun v17 i17 => ?_)
  refine c_iconst hx hb dX1_gatherChange_18 (by decide) (fun v18 i18 => ?_)
  refine c_cvv (As := [.int v13, .int v0, .int v17, .int v18]) (ci := 0) (q0 := 0) (wr := [((ad 0), .inr (1, [.ref (ad 1), .ref (ad 2), .ref (ad 3), .ref (ad 4), .ref (ad 5), .ref (ad 6), .ref (ad 7), .ref (ad 8), .ref (ad 9), .ref (ad 10), .ref (ad 11), .ref (ad 12), .ref (ad 13), .int T, .int Dv, .int C])), ((ad 1), .inl (cI, 6, .inl (f 0))), ((ad 2), .inl (cI, 6, .inl (f 1))), ((ad 3), .inl (cI, 6, .inl (f 2))), ((ad 4), .inl (cI, 6, .inl (f 3))), ((ad 5), .inl (cI, 360, .inl (f 4))), ((ad 6), .inl (cI, 360, .inl (f 5))), ((ad 7), .inl (cI, 2, .inl (f 6))), ((ad 8), .inl (cI, 2, .inl (f 7))), ((ad 9), .inl (cI, 20, .inl (f 8))), ((ad 10), .inl (cI, 20, .inl (f 9))), ((ad 11), .inl (cI, 20, .inl (f 10))), ((ad 12), .inl (cI, 20, .inl (f 11)))]) (wF := (fun u9 => (WX cI ad f (upd lo (3 * (61) + (0)) v17) (upd hi (3 * (61) + (0)) v18) T Dv C))) (kX0_put l D cI ad lo hi v13 v0 v17 v18 (61) (0) (by omega) (by omega) (by omega) (by omega)) ⟨hx, hb, hml, hown, hts⟩ (cwV 4 hts gX1_gatherChange_X0_put rfl rfl rfl (by decide +kernel) ⟨Nat.le_of_ble_eq_true rfl, Nat.le_of_ble_eq_true rfl⟩) hK hP hD hS hA [13, 14, 15] [0, 1, 2, 3, 4, 5, 6, 7, 8, 9, 10, 11, 12] [0, 1, 2, 3, 4, 5, 6, 7, 8, 9, 10, 11, 12, 13, 14, 15] rfl (by decide) rfl (by decide) (by decide) (by decide) (fun _ => rfl) rfl rfl rfl rfl hl.1 rfl (Nat.le_of_ble_eq_true rfl) dX1_gatherChange_19 ⟨Nat.zero_le _, Nat.zero_le _⟩ (fun u19 H locs q19 hP hD hS => ?_)
  try dsimp only at q19
  have hP : va_P D vwCl (WX cI ad f (upd lo (3 * (61) + (0)) v17) (upd hi (3 * (61) + (0)) v18) T Dv C) H := hP
  have hD : va_D A (WX cI ad f (upd lo (3 * (61) + (0)) v17) (upd hi (3 * (61) + (0)) v18) T Dv C) := hD
  refine c_iinc (k := 0) hx hb (fun v22 => [(4, .int v22), (0, .ref (ad 0)), (1, .int p1), (2, .int p2), (3, .int p3)]) dX1_gatherChange_22 hl rfl (by decide) (by omega) (by decide) (fun _ => rfl) (fun v22 ls i22 hl => ?_)
  have hl : lv_has ls 5 [(4, .int v22), (0, .ref (ad 0)), (1, .int p1), (2, .int p2), (3, .int p3)] := hl
  refine lv_goto (tgt := 3) hx hb dX1_gatherChange_25 (by decide) ?_
  refine lv_iload hx hb dX1_gatherChange_3 (lv_at hl 0 rfl) ?_
  refine c_iconst hx hb dX1_gatherChange_5 (by decide) (fun v5_2 i5_2 => ?_)
  refine c_icmp_ge (tgt := 28) hx hb dX1_gatherChange_6 (by decide) (fun c6_2 => absurd c6_2 (by omega)) (fun c6_2 => ?_)
  refine lv_aload_n hx hb dX1_gatherChange_9 rfl (lv_at hl 1 rfl) ?_
  refine va_get (D := D) (ci := 1) (v := .ref (ad 13)) (C := RX1) (T := TX1) (N := 16) hx hb hts inX1 hown hK hP 0 rfl rfl 12 (by decide) fl49 (fun _ h9 => h9) rfl dX1_gatherChange_10 ?_
  refine c_bipush hx hb dX1_gatherChange_13 (by decide) (fun v13_2 i13_2 => ?_)
  refine lv_iload hx hb dX1_gatherChange_15 (lv_at hl 0 rfl) ?_
  refine c_iconst hx hb dX1_gatherChange_17 (by decide) (fun v17_2 i17_2 => ?_)
  refine c_iconst hx hb dX1_gatherChange_18 (by decide) (fun v18_2 i18_2 => ?_)
  refine c_cvv (As := [.int v13_2, .int v22, .int v17_2, .int v18_2]) (ci := 0) (q0 := 0) (wr := [((ad 0), .inr (1, [.ref (ad 1), .ref (ad 2), .ref (ad 3), .ref (ad 4), .ref (ad 5), .ref (ad 6), .ref (ad 7), .ref (ad 8), .ref (ad 9), .ref (ad 10), .ref (ad 11), .ref (ad 12), .ref (ad 13), .int T, .int Dv, .int C])), ((ad 1), .inl (cI, 6, .inl (f 0))), ((ad 2), .inl (cI, 6, .inl (f 1))), ((ad 3), .inl (cI, 6, .inl (f 2))), ((ad 4), .inl (cI, 6, .inl (f 3))), ((ad 5), .inl (cI, 360, .inl (f 4))), ((ad 6), .inl (cI, 360, .inl (f 5))), ((ad 7), .inl (cI, 2, .inl (f 6))), ((ad 8), .inl (cI, 2, .inl (f 7))), ((ad 9), .inl (cI, 20, .inl (f 8))), ((ad 10), .inl (cI, 20, .inl (f 9))), ((ad 11), .inl (cI, 20, .inl (f 10))), ((ad 12), .inl (cI, 20, .inl (f 11)))]) (wF := (fun u9 => (WX cI ad f (upd (upd lo (3 * (61) + (0)) v17) (3 * (61) + (1)) v17_2) (upd (upd hi (3 * (61) + (0)) v18) (3 * (61) + (1)) v18_2) T Dv C))) (kX0_put l D cI ad (upd lo (3 * (61) + (0)) v17) (upd hi (3 * (61) + (0)) v18) v13_2 v22 v17_2 v18_2 (61) (1) (by omega) (by omega) (by omega) (by omega)) ⟨hx, hb, hml, hown, hts⟩ (cwV 4 hts gX1_gatherChange_X0_put rfl rfl rfl (by decide +kernel) ⟨Nat.le_of_ble_eq_true rfl, Nat.le_of_ble_eq_true rfl⟩) hK hP hD hS hA [13, 14, 15] [0, 1, 2, 3, 4, 5, 6, 7, 8, 9, 10, 11, 12] [0, 1, 2, 3, 4, 5, 6, 7, 8, 9, 10, 11, 12, 13, 14, 15] rfl (by decide) rfl (by decide) (by decide) (by decide) (fun _ => rfl) rfl rfl rfl rfl hl.1 rfl (Nat.le_of_ble_eq_true rfl) dX1_gatherChange_19 ⟨Nat.zero_le _, Nat.zero_le _⟩ (fun u19_2 H locs q19_2 hP hD hS => ?_)
  try dsimp only at q19_2
  have hP : va_P D vwCl (WX cI ad f (upd (upd lo (3 * (61) + (0)) v17) (3 * (61) + (1)) v17_2) (upd (upd hi (3 * (61) + (0)) v18) (3 * (61) + (1)) v18_2) T Dv C) H := hP
  have hD : va_D A (WX cI ad f (upd (upd lo (3 * (61) + (0)) v17) (3 * (61) + (1)) v17_2) (upd (upd hi (3 * (61) + (0)) v18) (3 * (61) + (1)) v18_2) T Dv C) := hD
  refine c_iinc (k := 0) hx hb (fun v22_2 => [(4, .int v22_2), (0, .ref (ad 0)), (1, .int p1), (2, .int p2), (3, .int p3)]) dX1_gatherChange_22 hl rfl (by decide) (by omega) (by decide) (fun _ => rfl) (fun v22_2 ls i22_2 hl => ?_)
  have hl : lv_has ls 5 [(4, .int v22_2), (0, .ref (ad 0)), (1, .int p1), (2, .int p2), (3, .int p3)] := hl
  refine lv_goto (tgt := 3) hx hb dX1_gatherChange_25 (by decide) ?_
  refine lv_iload hx hb dX1_gatherChange_3 (lv_at hl 0 rfl) ?_
  refine c_iconst hx hb dX1_gatherChange_5 (by decide) (fun v5_3 i5_3 => ?_)
  refine c_icmp_ge (tgt := 28) hx hb dX1_gatherChange_6 (by decide) (fun c6_3 => absurd c6_3 (by omega)) (fun c6_3 => ?_)
  refine lv_aload_n hx hb dX1_gatherChange_9 rfl (lv_at hl 1 rfl) ?_
  refine va_get (D := D) (ci := 1) (v := .ref (ad 13)) (C := RX1) (T := TX1) (N := 16) hx hb hts inX1 hown hK hP 0 rfl rfl 12 (by decide) fl49 (fun _ h9 => h9) rfl dX1_gatherChange_10 ?_
  refine c_bipush hx hb dX1_gatherChange_13 (by decide) (fun v13_3 i13_3 => ?_)
  refine lv_iload hx hb dX1_gatherChange_15 (lv_at hl 0 rfl) ?_
  refine c_iconst hx hb dX1_gatherChange_17 (by decide) (fun v17_3 i17_3 => ?_)
  refine c_iconst hx hb dX1_gatherChange_18 (by decide) (fun v18_3 i18_3 => ?_)
  refine c_cvv (As := [.int v13_3, .int v22_2, .int v17_3, .int v18_3]) (ci := 0) (q0 := 0) (wr := [((ad 0), .inr (1, [.ref (ad 1), .ref (ad 2), .ref (ad 3), .ref (ad 4), .ref (ad 5), .ref (ad 6), .ref (ad 7), .ref (ad 8), .ref (ad 9), .ref (ad 10), .ref (ad 11), .ref (ad 12), .ref (ad 13), .int T, .int Dv, .int C])), ((ad 1), .inl (cI, 6, .inl (f 0))), ((ad 2), .inl (cI, 6, .inl (f 1))), ((ad 3), .inl (cI, 6, .inl (f 2))), ((ad 4), .inl (cI, 6, .inl (f 3))), ((ad 5), .inl (cI, 360, .inl (f 4))), ((ad 6), .inl (cI, 360, .inl (f 5))), ((ad 7), .inl (cI, 2, .inl (f 6))), ((ad 8), .inl (cI, 2, .inl (f 7))), ((ad 9), .inl (cI, 20, .inl (f 8))), ((ad 10), .inl (cI, 20, .inl (f 9))), ((ad 11), .inl (cI, 20, .inl (f 10))), ((ad 12), .inl (cI, 20, .inl (f 11)))]) (wF := (fun u9 => (WX cI ad f (upd (upd (upd lo (3 * (61) + (0)) v17) (3 * (61) + (1)) v17_2) (3 * (61) + (2)) v17_3) (upd (upd (upd hi (3 * (61) + (0)) v18) (3 * (61) + (1)) v18_2) (3 * (61) + (2)) v18_3) T Dv C))) (kX0_put l D cI ad (upd (upd lo (3 * (61) + (0)) v17) (3 * (61) + (1)) v17_2) (upd (upd hi (3 * (61) + (0)) v18) (3 * (61) + (1)) v18_2) v13_3 v22_2 v17_3 v18_3 (61) (2) (by omega) (by omega) (by omega) (by omega)) ⟨hx, hb, hml, hown, hts⟩ (cwV 4 hts gX1_gatherChange_X0_put rfl rfl rfl (by decide +kernel) ⟨Nat.le_of_ble_eq_true rfl, Nat.le_of_ble_eq_true rfl⟩) hK hP hD hS hA [13, 14, 15] [0, 1, 2, 3, 4, 5, 6, 7, 8, 9, 10, 11, 12] [0, 1, 2, 3, 4, 5, 6, 7, 8, 9, 10, 11, 12, 13, 14, 15] rfl (by decide) rfl (by decide) (by decide) (by decide) (fun _ => rfl) rfl rfl rfl rfl hl.1 rfl (Nat.le_of_ble_eq_true rfl) dX1_gatherChange_19 ⟨Nat.zero_le _, Nat.zero_le _⟩ (fun u19_3 H locs q19_3 hP hD hS => ?_)
  try dsimp only at q19_3
  have hP : va_P D vwCl (WX cI ad f (upd (upd (upd lo (3 * (61) + (0)) v17) (3 * (61) + (1)) v17_2) (3 * (61) + (2)) v17_3) (upd (upd (upd hi (3 * (61) + (0)) v18) (3 * (61) + (1)) v18_2) (3 * (61) + (2)) v18_3) T Dv C) H := hP
  have hD : va_D A (WX cI ad f (upd (upd (upd lo (3 * (61) + (0)) v17) (3 * (61) + (1)) v17_2) (3 * (61) + (2)) v17_3) (upd (upd (upd hi (3 * (61) + (0)) v18) (3 * (61) + (1)) v18_2) (3 * (61) + (2)) v18_3) T Dv C) := hD
  refine c_iinc (k := 0) hx hb (fun v22_3 => [(4, .int v22_3), (0, .ref (ad 0)), (1, .int p1), (2, .int p2), (3, .int p3)]) dX1_gatherChange_22 hl rfl (by decide) (by omega) (by decide) (fun _ => rfl) (fun v22_3 ls i22_3 hl => ?_)
  have hl : lv_has ls 5 [(4, .int v22_3), (0, .ref (ad 0)), (1, .int p1), (2, .int p2), (3, .int p3)] := hl
  refine lv_goto (tgt := 3) hx hb dX1_gatherChange_25 (by decide) ?_
  refine lv_iload hx hb dX1_gatherChange_3 (lv_at hl 0 rfl) ?_
  refine c_iconst hx hb dX1_gatherChange_5 (by decide) (fun v5_4 i5_4 => ?_)
  refine c_icmp_ge (tgt := 28) hx hb dX1_gatherChange_6 (by decide) (fun c6_4 => ?_) (fun c6_4 => absurd c6_4 (by omega))
  have U1 := up3 lo 61 v17 v17_2 v17_3
  have U2 := up3 hi 61 v18 v18_2 v18_3
  obtain ⟨lo0, elo⟩ : ∃ z, z = (upd (upd (upd lo (3 * (61) + (0)) v17) (3 * (61) + (1)) v17_2) (3 * (61) + (2)) v17_3) := ⟨_, rfl⟩
  obtain ⟨hi0, ehi⟩ : ∃ z, z = (upd (upd (upd hi (3 * (61) + (0)) v18) (3 * (61) + (1)) v18_2) (3 * (61) + (2)) v18_3) := ⟨_, rfl⟩
  rw [← elo, ← ehi] at hP hD
  rw [← elo] at U1
  rw [← ehi] at U2
  have hz : eq6 (rwX lo0 hi0 61) (crow (mvs f t p2.toInt p3.toInt 0)) := by
    refine ⟨?_, ?_, ?_, ?_, ?_, ?_⟩
    · show (lo0 (3 * 61 + 0)).toInt = 0; rw [U1.1.1]; assumption
    · show (hi0 (3 * 61 + 0)).toInt = 0; rw [U2.1.1]; assumption
    · show (lo0 (3 * 61 + 1)).toInt = 0; rw [U1.1.2.1]; assumption
    · show (hi0 (3 * 61 + 1)).toInt = 0; rw [U2.1.2.1]; assumption
    · show (lo0 (3 * 61 + 2)).toInt = 0; rw [U1.1.2.2]; assumption
    · show (hi0 (3 * 61 + 2)).toInt = 0; rw [U2.1.2.2]; assumption
  have hfr : ∀ j, j < 183 → lo0 j = lo j ∧ hi0 j = hi j := fun j hj => ⟨U1.2 j (by omega), U2.2 j (by omega)⟩
  refine c_iconst hx hb dX1_gatherChange_28 (by decide) (fun v28 i28 => ?_)
  refine lv_istore (lv' := [(4, .int v28), (0, .ref (ad 0)), (1, .int p1), (2, .int p2), (3, .int p3)]) hx hb dX1_gatherChange_29 hl (by decide) rfl (fun ls hl => ?_)
  have HL31 : ∀ (n : Nat) (d : Nat) (x4 : Int32) (lo1 : Nat → Int32) (hi1 : Nat → Int32) (H : Heap) (locs : List Loc) (ls : Array Slot), (x4.toInt = (d : Int)) → (d ≤ Dn) → (Dn + 1 ≤ d + n) → (eq6 (rwX lo1 hi1 61) (crow (mvs f t p2.toInt p3.toInt d))) → (∀ j, j < 183 → lo1 j = lo j ∧ hi1 j = hi j) → va_P D vwCl (WX cI ad f lo1 hi1 T Dv C) H → va_D A (WX cI ad f lo1 hi1 T Dv C) → va_S A s.heap H locs → lv_has ls 5 [(0, .ref (ad 0)), (1, .int p1), (2, .int p2), (3, .int p3), (4, .int x4)] → W p l e ({ frames := 3, cells := 0, slots := 0, locals := 69 } : Room) s m [.ref (ad 0), .int p1, .int p2, .int p3].toArray below meth c H locs 0 0 (MQ below (va_Qv (fun (u : (Nat → Int32) × (Nat → Int32)) => eq6 (rwX u.1 u.2 61) (crow (mvs f t p2.toInt p3.toInt Dn)) ∧ ∀ j, j < 183 → u.1 j = lo j ∧ u.2 j = hi j) (cB D [(cI, .int)] A (fun u : (Nat → Int32) × (Nat → Int32) => (WX cI ad f u.1 u.2 T Dv C))) A) [.ref (ad 0), .int p1, .int p2, .int p3].toArray s 0 0 A) (F0 m 31 ls []) := by
    intro n
    induction n with
    | zero => intro d x4 lo1 hi1 H locs ls hx4 hdn hms hz1 hfr1; exact absurd hms (by omega)
    | succ n ih31 =>
      intro d x4 lo1 hi1 H locs ls hx4 hdn hms hz1 hfr1 hP hD hS hl
      refine lv_iload hx hb dX1_gatherChange_31 (lv_at hl 4 rfl) ?_
      refine lv_aload_n hx hb dX1_gatherChange_33 rfl (lv_at hl 0 rfl) ?_
      refine va_get (D := D) (ci := 1) (v := .int Dv) (C := RX1) (T := TX1) (N := 16) hx hb hts inX1 hown hK hP 0 rfl rfl 14 (by decide) fl61 (fun _ h9 => h9) rfl dX1_gatherChange_34 ?_
      refine c_icmp_ge (tgt := 79) hx hb dX1_gatherChange_37 (by decide) (fun c37 => ?_) (fun c37 => ?_)
      · skip
        exact c_rv (lo1, hi1) hx hb hr hlocks hK hP hD hS dX1_gatherChange_79 (by
                have hdd : d = Dn := by omega
                subst hdd
                exact ⟨hz1, hfr1⟩)
      · skip
        refine lv_iload hx hb dX1_gatherChange_40 (lv_at hl 4 rfl) ?_
        refine lv_iload_n hx hb dX1_gatherChange_42 rfl (lv_at hl 3 rfl) ?_
        refine c_icmp_eq (tgt := 73) hx hb dX1_gatherChange_43 (by decide) (fun c43 => ?_) (fun c43 => ?_)
        · skip
          refine c_iinc (k := 4) hx hb (fun v73 => [(4, .int v73), (0, .ref (ad 0)), (1, .int p1), (2, .int p2), (3, .int p3)]) dX1_gatherChange_73 hl rfl (by decide) (by omega) (by decide) (fun _ => rfl) (fun v73 ls i73 hl => ?_)
          have hl : lv_has ls 5 [(4, .int v73), (0, .ref (ad 0)), (1, .int p1), (2, .int p2), (3, .int p3)] := hl
          refine lv_goto (tgt := 31) hx hb dX1_gatherChange_76 (by decide) ?_
          exact ih31 (d + 1) v73 lo1 hi1 _ _ _ (by omega) (by omega) (by omega) (by have q := crow_but (f := f) (t := t) (mr := p2.toInt) (but := p3.toInt) (d := d) (by omega); unfold eq6 at *; omega) hfr1 hP hD hS (lv_sub hl [1, 2, 3, 4, 0] rfl)
        · skip
          have n1 := hId d (by omega)
          have n2 := n_bd (mr := p2.toInt) hI (show d < Dn by omega) htn hm.1 hm.2
          have n3 := crow_bd (but := p3.toInt) hI htn hm.1 hm.2 d (by omega)
          have n4 : bd (rwX lo1 hi1 61) 1000000 := by unfold bd eq6 at *; omega
          refine lv_aload_n hx hb dX1_gatherChange_46 rfl (lv_at hl 0 rfl) ?_
          refine lv_aload_n hx hb dX1_gatherChange_47 rfl (lv_at hl 0 rfl) ?_
          refine va_get (D := D) (ci := 1) (v := .ref (ad 1)) (C := RX1) (T := TX1) (N := 16) hx hb hts inX1 hown hK hP 0 rfl rfl 0 (by decide) fl9 (fun _ h9 => h9) rfl dX1_gatherChange_48 ?_
          refine lv_iload hx hb dX1_gatherChange_51 (lv_at hl 4 rfl) ?_
          refine c_iald hx hb hK hP 1 0 rfl rfl (d) (by omega) (by omega) dX1_gatherChange_53 (fun v53 e53 => ?_)
          have i53 : v53.toInt = ((f 0) (d)).toInt := by rw [e53]
          refine lv_aload_n hx hb dX1_gatherChange_54 rfl (lv_at hl 0 rfl) ?_
          refine lv_iload hx hb dX1_gatherChange_55 (lv_at hl 4 rfl) ?_
          refine lv_iload_n hx hb dX1_gatherChange_57 rfl (lv_at hl 1 rfl) ?_
          refine lv_iload_n hx hb dX1_gatherChange_58 rfl (lv_at hl 2 rfl) ?_
          refine c_wvi (As := [.int x4, .int p1, .int p2]) (ci := 1) (q0 := 0) (kX1_leastNet l D cI ad f lo1 hi1 T Dv C Tn Dn Cn x4 p1 p2 (d) (t) hT hDv hC hI (by omega) (by omega) (by omega) (by omega) (by omega)) ⟨hx, hb, hml, hown, hts⟩ (cwV 3 hts gX1_gatherChange_X1_leastNet rfl rfl rfl (by decide +kernel) ⟨Nat.le_of_ble_eq_true rfl, Nat.le_of_ble_eq_true rfl⟩) hK hP hD hS hA rfl rfl rfl rfl hl.1 rfl (Nat.le_of_ble_eq_true rfl) dX1_gatherChange_59 ⟨Nat.zero_le _, Nat.zero_le _⟩ (fun r59 u59 H locs q59 hP hD hS => ?_)
          try dsimp only at q59
          have hP : va_P D vwCl (WX cI ad f lo1 hi1 T Dv C) H := hP
          have hD : va_D A (WX cI ad f lo1 hi1 T Dv C) := hD
          refine lv_aload_n hx hb dX1_gatherChange_62 rfl (lv_at hl 0 rfl) ?_
          refine lv_iload hx hb dX1_gatherChange_63 (lv_at hl 4 rfl) ?_
          refine lv_iload_n hx hb dX1_gatherChange_65 rfl (lv_at hl 1 rfl) ?_
          refine lv_iload_n hx hb dX1_gatherChange_66 rfl (lv_at hl 2 rfl) ?_
          refine c_wvi (As := [.int x4, .int p1, .int p2]) (ci := 1) (q0 := 0) (kX1_mostNet l D cI ad f lo1 hi1 T Dv C Tn Dn Cn x4 p1 p2 (d) (t) hT hDv hC hI (by omega) (by omega) (by omega) (by omega) (by omega)) ⟨hx, hb, hml, hown, hts⟩ (cwV 3 hts gX1_gatherChange_X1_mostNet rfl rfl rfl (by decide +kernel) ⟨Nat.le_of_ble_eq_true rfl, Nat.le_of_ble_eq_true rfl⟩) hK hP hD hS hA rfl rfl rfl rfl hl.1 rfl (Nat.le_of_ble_eq_true rfl) dX1_gatherChange_67 ⟨Nat.zero_le _, Nat.zero_le _⟩ (fun r67 u67 H locs q67 hP hD hS => ?_)
          try dsimp only at q67
          have hP : va_P D vwCl (WX cI ad f lo1 hi1 T Dv C) H := hP
          have hD : va_D A (WX cI ad f lo1 hi1 T Dv C) := hD
          refine c_wvv (As := [.int v53, .int r59, .int r67]) (ci := 1) (q0 := 0) (kX1_addDoor l D cI ad f lo1 hi1 T Dv C Tn Dn Cn v53 r59 r67 hT hDv hC hI (by omega) (by omega) (by omega) n4) ⟨hx, hb, hml, hown, hts⟩ (cwV 3 hts gX1_gatherChange_X1_addDoor rfl rfl rfl (by decide +kernel) ⟨Nat.le_of_ble_eq_true rfl, Nat.le_of_ble_eq_true rfl⟩) hK hP hD hS hA rfl rfl rfl rfl hl.1 rfl (Nat.le_of_ble_eq_true rfl) dX1_gatherChange_70 ⟨Nat.zero_le _, Nat.zero_le _⟩ (fun u70 H locs q70 hP hD hS => ?_)
          try dsimp only at q70
          have hP : va_P D vwCl (WX cI ad f u70.1 u70.2 T Dv C) H := hP
          have hD : va_D A (WX cI ad f u70.1 u70.2 T Dv C) := hD
          rw [i53, q59, q67] at q70
          refine c_iinc (k := 4) hx hb (fun v73_2 => [(4, .int v73_2), (0, .ref (ad 0)), (1, .int p1), (2, .int p2), (3, .int p3)]) dX1_gatherChange_73 hl rfl (by decide) (by omega) (by decide) (fun _ => rfl) (fun v73_2 ls i73_2 hl => ?_)
          have hl : lv_has ls 5 [(4, .int v73_2), (0, .ref (ad 0)), (1, .int p1), (2, .int p2), (3, .int p3)] := hl
          refine lv_goto (tgt := 31) hx hb dX1_gatherChange_76 (by decide) ?_
          exact ih31 (d + 1) v73_2 u70.1 u70.2 _ _ _ (by omega) (by omega) (by omega) (ad6_eq q70.1 (crow_st (by omega) (hId d (by omega)).1) hz1 ) (fun j hj => ⟨(q70.2 j hj).1.trans (hfr1 j hj).1, (q70.2 j hj).2.trans (hfr1 j hj).2⟩) hP hD hS (lv_sub hl [1, 2, 3, 4, 0] rfl)
  exact HL31 (Dn + 1) 0 v28 lo0 hi0 _ _ _ (by omega) (by omega) (by omega) hz hfr hP hD hS (lv_sub hl [1, 2, 3, 4, 0] rfl)
