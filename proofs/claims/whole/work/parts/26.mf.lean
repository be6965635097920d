set_option maxHeartbeats 4000000 in
set_option maxRecDepth 100000 in
theorem kX2_through (l : Launch) (D : va_G) (cI : ClassId) (ad : Nat → Nat) (f : Nat → Nat → Int32) (ah : Nat → Int32) (bk : Nat → Int32) (bo : Nat → Int32) (mv : Nat → Int32) (T : Int32) (Dv : Int32) (C : Int32) (th : Int32) (mo : Int32) (Tn : Nat) (Dn : Nat) (Cn : Nat) (p1 : Int32) (p2 : Int32) (p3 : Int32) (hT : T.toInt = (Tn : Int)) (hDv : Dv.toInt = (Dn : Int)) (hC : C.toInt = (Cn : Int)) (hI : Inv f Tn Dn Cn) : MI l yX2_through wsX2_through ({ frames := 6, cells := 0, slots := 0, locals := 134 } : Room) D [(cI, .int)] [.ref (ad 0), .int p1, .int p2, .int p3] (WM cI ad f ah bk bo mv T Dv C th mo) (fun u : (Nat → Int32) × (Nat → Int32) × (Nat → Int32) × (Nat → Int32) × Int32 × Int32 => (WM cI ad f u.1 u.2.1 u.2.2.1 u.2.2.2.1 T Dv C u.2.2.2.2.1 u.2.2.2.2.2)) (fun (r : Int32) (u : (Nat → Int32) × (Nat → Int32) × (Nat → Int32) × (Nat → Int32) × Int32 × Int32) => TH (Bkv f Tn Dn Cn) f Tn Dn Cn p1.toInt p2.toInt p3.toInt u.2.2.2.2.1.toInt r.toInt) := by
  refine c_ent (cc := cX2_through) (maxL := 13) (ret := (some .int)) (Qc := fun A => va_Qi (fun (r : Int32) (u : (Nat → Int32) × (Nat → Int32) × (Nat → Int32) × (Nat → Int32) × Int32 × Int32) => TH (Bkv f Tn Dn Cn) f Tn Dn Cn p1.toInt p2.toInt p3.toInt u.2.2.2.2.1.toInt r.toInt) (cB D [(cI, .int)] A (fun u : (Nat → Int32) × (Nat → Int32) × (Nat → Int32) × (Nat → Int32) × Int32 × Int32 => (WM cI ad f u.1 u.2.1 u.2.2.1 u.2.2.2.1 T Dv C u.2.2.2.2.1 u.2.2.2.2.2))) A) (by decide) rfl (Nat.le_of_ble_eq_true rfl) ?_
  intro p e s m below meth c A ls hx hb hr hlocks hts hown hml hK hP hD hA hl
  have hS : va_S A s.heap s.heap [] := va_S.rf
  have hl : lv_has ls 13 [(0, .ref (ad 0)), (1, .int p1), (2, .int p2), (3, .int p3)] := hl
  have hP : va_P D vwCl (WM cI ad f ah bk bo mv T Dv C th mo) s.heap := hP
  have fl13 := hts (.fieldLink RX2 13 "DoorBenchModel" "kind" "[I") (by decide +kernel)
  have fl50 := hts (.fieldLink RX2 50 "DoorBenchModel" "ahead" "[I") (by decide +kernel)
  have fl53 := hts (.fieldLink RX2 53 "DoorBenchModel" "back" "[I") (by decide +kernel)
  have fl59 := hts (.fieldLink RX2 59 "DoorBenchModel" "move" "[I") (by decide +kernel)
  have fl66 := hts (.fieldLink RX2 66 "DoorBenchModel" "thrown" "I") (by decide +kernel)
  have inX2 : ∀ w ∈ wsX20, w ∈ wsX2_through := by decide +kernel
  obtain ⟨hI0, hId, hIr, hIs, hIc⟩ := id hI
  refine lv_aload_n hx hb dX2_through_0 rfl (lv_at hl 0 rfl) ?_
  refine c_iconst hx hb dX2_through_1 (by decide) (fun v1 i1 => ?_)
  obtain rfl : v1 = 0 := t_inj (by rw [i1]; rfl)
  refine c_put (D := D) (ci := 2) (C := RX2) (T := TX2) (N := 21) hx hb hts inX2 tyX2 tyX2_ok nmX2 hown hK hP hD hS 0 rfl rfl 15 (by decide) fl66 (fun _ h9 => h9) rfl (by decide +kernel) (Nat.le_of_ble_eq_true rfl) (WM cI ad f ah bk bo mv T Dv C 0 mo) rfl dX2_through_2 (fun H locs hP hD hS => ?_)
  refine lv_aload_n hx hb dX2_through_5 rfl (lv_at hl 0 rfl) ?_
  refine lv_iload_n hx hb dX2_through_6 rfl (lv_at hl 1 rfl) ?_
  refine lv_iload_n hx hb dX2_through_7 rfl (lv_at hl 2 rfl) ?_
  refine c_wvi (As := [.int p1, .int p2]) (ci := 2) (q0 := 0) (kX2_isRow l D cI ad f ah bk bo mv T Dv C 0 mo Tn Dn Cn p1 p2 hT hDv hC hI) ⟨hx, hb, hml, hown, hts⟩ (cwV 2 hts gX2_through_X2_isRow rfl rfl rfl (by decide +kernel) ⟨Nat.le_of_ble_eq_true rfl, Nat.le_of_ble_eq_true rfl⟩) hK hP hD hS hA rfl rfl rfl rfl hl.1 rfl (Nat.le_of_ble_eq_true rfl) dX2_through_8 ⟨Nat.zero_le _, Nat.zero_le _⟩ (fun r8 u8 H locs q8 hP hD hS => ?_)
  try dsimp only at q8
  have hP : va_P D vwCl (WM cI ad f ah bk bo mv T Dv C 0 mo) H := hP
  have hD : va_D A (WM cI ad f ah bk bo mv T Dv C 0 mo) := hD
  refine c_if_ne (tgt := 20) hx hb dX2_through_11 (by decide) (fun c11 => ?_) (fun c11 => ?_)
  · skip
    refine lv_aload_n hx hb dX2_through_20 rfl (lv_at hl 0 rfl) ?_
    refine c_wvi (As := []) (ci := 2) (q0 := 0) (kX2_work l D cI ad f ah bk bo mv T Dv C 0 mo Tn Dn Cn hT hDv hC hI) ⟨hx, hb, hml, hown, hts⟩ (cwV 0 hts gX2_through_X2_work rfl rfl rfl (by decide +kernel) ⟨Nat.le_of_ble_eq_true rfl, Nat.le_of_ble_eq_true rfl⟩) hK hP hD hS hA rfl rfl rfl rfl hl.1 rfl (Nat.le_of_ble_eq_true rfl) dX2_through_21 ⟨Nat.zero_le _, Nat.zero_le _⟩ (fun r21 u21 H locs q21 hP hD hS => ?_)
    try dsimp only at q21
    have hP : va_P D vwCl (WM cI ad f u21.1 u21.2.1 u21.2.2.1 u21.2.2.2 T Dv C 0 0) H := hP
    have hD : va_D A (WM cI ad f u21.1 u21.2.1 u21.2.2.1 u21.2.2.2 T Dv C 0 0) := hD
    have h01 := WK_01 q21
    refine c_if_ne (tgt := 33) hx hb dX2_through_24 (by decide) (fun c24 => ?_) (fun c24 => ?_)
    · skip
      have hy := WK_yes q21 (by omega)
      obtain ⟨⟨hTx, hbx⟩, -, -⟩ := hy p2.toInt.toNat (by omega)
      obtain ⟨-, ⟨hTy, hby⟩, -⟩ := hy (p2.toInt.toNat + 1) (by omega)
      obtain ⟨x0, x1, x2, x3, x4, x5⟩ := id hbx
      obtain ⟨y0, y1, y2, y3, y4, y5⟩ := id hby
      have wx0 : (u21.1 (6 * p2.toInt.toNat)).toInt = rwM u21.1 p2.toInt.toNat 0 := rfl
      have wx1 : (u21.1 (6 * p2.toInt.toNat + 1)).toInt = rwM u21.1 p2.toInt.toNat 1 := rfl
      have wx2 : (u21.1 (6 * p2.toInt.toNat + 2)).toInt = rwM u21.1 p2.toInt.toNat 2 := rfl
      have wx3 : (u21.1 (6 * p2.toInt.toNat + 3)).toInt = rwM u21.1 p2.toInt.toNat 3 := rfl
      have wx4 : (u21.1 (6 * p2.toInt.toNat + 4)).toInt = rwM u21.1 p2.toInt.toNat 4 := rfl
      have wx5 : (u21.1 (6 * p2.toInt.toNat + 5)).toInt = rwM u21.1 p2.toInt.toNat 5 := rfl
      have wy0 : (u21.2.1 (6 * p2.toInt.toNat + 6)).toInt = rwM u21.2.1 (p2.toInt.toNat + 1) 0 := rfl
      have wy1 : (u21.2.1 (6 * p2.toInt.toNat + 7)).toInt = rwM u21.2.1 (p2.toInt.toNat + 1) 1 := rfl
      have wy2 : (u21.2.1 (6 * p2.toInt.toNat + 8)).toInt = rwM u21.2.1 (p2.toInt.toNat + 1) 2 := rfl
      have wy3 : (u21.2.1 (6 * p2.toInt.toNat + 9)).toInt = rwM u21.2.1 (p2.toInt.toNat + 1) 3 := rfl
      have wy4 : (u21.2.1 (6 * p2.toInt.toNat + 10)).toInt = rwM u21.2.1 (p2.toInt.toNat + 1) 4 := rfl
      have wy5 : (u21.2.1 (6 * p2.toInt.toNat + 11)).toInt = rwM u21.2.1 (p2.toInt.toNat + 1) 5 := rfl
      have hmb := (mvs_bd (mr := 0) (but := p1.toInt) hI (show p2.toInt.toNat < Tn by omega) (by omega) (by omega) Dn (Nat.le_refl _)).2
      have nb := n_bd (mr := 0) hI (show p1.toInt.toNat < Dn by omega) (show p2.toInt.toNat < Tn by omega) (by omega) (by omega)
      have nk := hId p1.toInt.toNat (by omega)
      refine lv_aload_n hx hb dX2_through_33 rfl (lv_at hl 0 rfl) ?_
      refine lv_iload_n hx hb dX2_through_34 rfl (lv_at hl 2 rfl) ?_
      refine lv_iload_n hx hb dX2_through_35 rfl (lv_at hl 1 rfl) ?_
      refine c_wvv (As := [.int p2, .int p1]) (ci := 2) (q0 := 0) (kX2_moves l D cI ad f u21.1 u21.2.1 u21.2.2.1 u21.2.2.2 T Dv C 0 0 Tn Dn Cn p2 p1 (p2.toInt.toNat) hT hDv hC hI (by omega) (by omega) (by decide)) ⟨hx, hb, hml, hown, hts⟩ (cwV 2 hts gX2_through_X2_moves rfl rfl rfl (by decide +kernel) ⟨Nat.le_of_ble_eq_true rfl, Nat.le_of_ble_eq_true rfl⟩) hK hP hD hS hA rfl rfl rfl rfl hl.1 rfl (Nat.le_of_ble_eq_true rfl) dX2_through_36 ⟨Nat.zero_le _, Nat.zero_le _⟩ (fun u36 H locs q36 hP hD hS => ?_)
      try dsimp only at q36
      have hP : va_P D vwCl (WM cI ad f u21.1 u21.2.1 u21.2.2.1 u36 T Dv C 0 0) H := hP
      have hD : va_D A (WM cI ad f u21.1 u21.2.1 u21.2.2.1 u36 T Dv C 0 0) := hD
      have q36 : ∀ i, i < 6 → (u36 i).toInt = mvs f p2.toInt.toNat 0 p1.toInt Dn i := q36
      have M0 := q36 0 (by omega)
      have N0 := hmb 0 (by omega)
      have M1 := q36 1 (by omega)
      have N1 := hmb 1 (by omega)
      have M2 := q36 2 (by omega)
      have N2 := hmb 2 (by omega)
      have M3 := q36 3 (by omega)
      have N3 := hmb 3 (by omega)
      have M4 := q36 4 (by omega)
      have N4 := hmb 4 (by omega)
      have M5 := q36 5 (by omega)
      have N5 := hmb 5 (by omega)
      have ce := crow_e (mvs f p2.toInt.toNat 0 p1.toInt Dn)
      refine c_bipush hx hb dX2_through_39 (by decide) (fun v39 i39 => ?_)
      refine lv_iload_n hx hb dX2_through_41 rfl (lv_at hl 2 rfl) ?_
      refine c_imul (a := 6) (b := p2.toInt) hx hb dX2_through_42 (by omega) rfl (by omega) (fun v42 i42 => ?_)
      refine lv_istore (lv' := [(4, .int v42), (0, .ref (ad 0)), (1, .int p1), (2, .int p2), (3, .int p3)]) hx hb dX2_through_43 hl (by decide) rfl (fun ls hl => ?_)
      refine lv_aload_n hx hb dX2_through_45 rfl (lv_at hl 1 rfl) ?_
      refine va_get (D := D) (ci := 2) (v := .ref (ad 14)) (C := RX2) (T := TX2) (N := 21) hx hb hts inX2 hown hK hP 0 rfl rfl 17 (by decide) fl53 (fun _ h9 => h9) rfl dX2_through_46 ?_
      refine lv_iload hx hb dX2_through_49 (lv_at hl 0 rfl) ?_
      refine c_bipush hx hb dX2_through_51 (by decide) (fun v51 i51 => ?_)
      refine c_iadd hx hb dX2_through_53 (by omega) (fun v53 i53 => ?_)
      refine c_iald hx hb hK hP 14 0 rfl rfl (6 * p2.toInt.toNat + 6) (by omega) (by omega) dX2_through_54 (fun v54 e54 => ?_)
      have i54 : v54.toInt = (u21.2.1 (6 * p2.toInt.toNat + 6)).toInt := by rw [e54]
      refine lv_aload_n hx hb dX2_through_55 rfl (lv_at hl 1 rfl) ?_
      refine va_get (D := D) (ci := 2) (v := .ref (ad 13)) (C := RX2) (T := TX2) (N := 21) hx hb hts inX2 hown hK hP 0 rfl rfl 16 (by decide) fl50 (fun _ h9 => h9) rfl dX2_through_56 ?_
      refine lv_iload hx hb dX2_through_59 (lv_at hl 0 rfl) ?_
      refine c_iconst hx hb dX2_through_61 (by decide) (fun v61 i61 => ?_)
      refine c_iadd hx hb dX2_through_62 (by omega) (fun v62 i62 => ?_)
      refine c_iald hx hb hK hP 13 0 rfl rfl (6 * p2.toInt.toNat + 1) (by omega) (by omega) dX2_through_63 (fun v63 e63 => ?_)
      have i63 : v63.toInt = (u21.1 (6 * p2.toInt.toNat + 1)).toInt := by rw [e63]
      refine c_isub hx hb dX2_through_64 (by omega) (fun v64 i64 => ?_)
      refine lv_aload_n hx hb dX2_through_65 rfl (lv_at hl 1 rfl) ?_
      refine va_get (D := D) (ci := 2) (v := .ref (ad 16)) (C := RX2) (T := TX2) (N := 21) hx hb hts inX2 hown hK hP 0 rfl rfl 19 (by decide) fl59 (fun _ h9 => h9) rfl dX2_through_66 ?_
      refine c_iconst hx hb dX2_through_69 (by decide) (fun v69 i69 => ?_)
      refine c_iald hx hb hK hP 16 0 rfl rfl (1) (by omega) (by omega) dX2_through_70 (fun v70 e70 => ?_)
      have i70 : v70.toInt = (u36 (1)).toInt := by rw [e70]
      refine c_isub hx hb dX2_through_71 (by omega) (fun v71 i71 => ?_)
      refine lv_aload_n hx hb dX2_through_72 rfl (lv_at hl 1 rfl) ?_
      refine va_get (D := D) (ci := 2) (v := .ref (ad 16)) (C := RX2) (T := TX2) (N := 21) hx hb hts inX2 hown hK hP 0 rfl rfl 19 (by decide) fl59 (fun _ h9 => h9) rfl dX2_through_73 ?_
      refine c_iconst hx hb dX2_through_76 (by decide) (fun v76 i76 => ?_)
      refine c_iald hx hb hK hP 16 0 rfl rfl (4) (by omega) (by omega) dX2_through_77 (fun v77 e77 => ?_)
      have i77 : v77.toInt = (u36 (4)).toInt := by rw [e77]
      refine c_iadd hx hb dX2_through_78 (by omega) (fun v78 i78 => ?_)
      refine lv_istore (lv' := [(5, .int v78), (4, .int v42), (0, .ref (ad 0)), (1, .int p1), (2, .int p2), (3, .int p3)]) hx hb dX2_through_79 hl (by decide) rfl (fun ls hl => ?_)
      refine lv_aload_n hx hb dX2_through_81 rfl (lv_at hl 2 rfl) ?_
      refine va_get (D := D) (ci := 2) (v := .ref (ad 14)) (C := RX2) (T := TX2) (N := 21) hx hb hts inX2 hown hK hP 0 rfl rfl 17 (by decide) fl53 (fun _ h9 => h9) rfl dX2_through_82 ?_
      refine lv_iload hx hb dX2_through_85 (lv_at hl 1 rfl) ?_
      refine c_bipush hx hb dX2_through_87 (by decide) (fun v87 i87 => ?_)
      refine c_iadd hx hb dX2_through_89 (by omega) (fun v89 i89 => ?_)
      refine c_iald hx hb hK hP 14 0 rfl rfl (6 * p2.toInt.toNat + 7) (by omega) (by omega) dX2_through_90 (fun v90 e90 => ?_)
      have i90 : v90.toInt = (u21.2.1 (6 * p2.toInt.toNat + 7)).toInt := by rw [e90]
      refine lv_aload_n hx hb dX2_through_91 rfl (lv_at hl 2 rfl) ?_
      refine va_get (D := D) (ci := 2) (v := .ref (ad 13)) (C := RX2) (T := TX2) (N := 21) hx hb hts inX2 hown hK hP 0 rfl rfl 16 (by decide) fl50 (fun _ h9 => h9) rfl dX2_through_92 ?_
      refine lv_iload hx hb dX2_through_95 (lv_at hl 1 rfl) ?_
      refine c_iald hx hb hK hP 13 0 rfl rfl (6 * p2.toInt.toNat) (by omega) (by omega) dX2_through_97 (fun v97 e97 => ?_)
      have i97 : v97.toInt = (u21.1 (6 * p2.toInt.toNat)).toInt := by rw [e97]
      refine c_isub hx hb dX2_through_98 (by omega) (fun v98 i98 => ?_)
      refine lv_aload_n hx hb dX2_through_99 rfl (lv_at hl 2 rfl) ?_
      refine va_get (D := D) (ci := 2) (v := .ref (ad 16)) (C := RX2) (T := TX2) (N := 21) hx hb hts inX2 hown hK hP 0 rfl rfl 19 (by decide) fl59 (fun _ h9 => h9) rfl dX2_through_100 ?_
      refine c_iconst hx hb dX2_through_103 (by decide) (fun v103 i103 => ?_)
      refine c_iald hx hb hK hP 16 0 rfl rfl (0) (by omega) (by omega) dX2_through_104 (fun v104 e104 => ?_)
      have i104 : v104.toInt = (u36 (0)).toInt := by rw [e104]
      refine c_isub hx hb dX2_through_105 (by omega) (fun v105 i105 => ?_)
      refine lv_aload_n hx hb dX2_through_106 rfl (lv_at hl 2 rfl) ?_
      refine va_get (D := D) (ci := 2) (v := .ref (ad 16)) (C := RX2) (T := TX2) (N := 21) hx hb hts inX2 hown hK hP 0 rfl rfl 19 (by decide) fl59 (fun _ h9 => h9) rfl dX2_through_107 ?_
      refine c_iconst hx hb dX2_through_110 (by decide) (fun v110 i110 => ?_)
      refine c_iald hx hb hK hP 16 0 rfl rfl (5) (by omega) (by omega) dX2_through_111 (fun v111 e111 => ?_)
      have i111 : v111.toInt = (u36 (5)).toInt := by rw [e111]
      refine c_iadd hx hb dX2_through_112 (by omega) (fun v112 i112 => ?_)
      refine lv_istore (lv' := [(6, .int v112), (5, .int v78), (4, .int v42), (0, .ref (ad 0)), (1, .int p1), (2, .int p2), (3, .int p3)]) hx hb dX2_through_113 hl (by decide) rfl (fun ls hl => ?_)
      refine lv_aload_n hx hb dX2_through_115 rfl (lv_at hl 3 rfl) ?_
      refine va_get (D := D) (ci := 2) (v := .ref (ad 14)) (C := RX2) (T := TX2) (N := 21) hx hb hts inX2 hown hK hP 0 rfl rfl 17 (by decide) fl53 (fun _ h9 => h9) rfl dX2_through_116 ?_
      refine lv_iload hx hb dX2_through_119 (lv_at hl 2 rfl) ?_
      refine c_bipush hx hb dX2_through_121 (by decide) (fun v121 i121 => ?_)
      refine c_iadd hx hb dX2_through_123 (by omega) (fun v123 i123 => ?_)
      refine c_iald hx hb hK hP 14 0 rfl rfl (6 * p2.toInt.toNat + 8) (by omega) (by omega) dX2_through_124 (fun v124 e124 => ?_)
      have i124 : v124.toInt = (u21.2.1 (6 * p2.toInt.toNat + 8)).toInt := by rw [e124]
      refine lv_aload_n hx hb dX2_through_125 rfl (lv_at hl 3 rfl) ?_
      refine va_get (D := D) (ci := 2) (v := .ref (ad 13)) (C := RX2) (T := TX2) (N := 21) hx hb hts inX2 hown hK hP 0 rfl rfl 16 (by decide) fl50 (fun _ h9 => h9) rfl dX2_through_126 ?_
      refine lv_iload hx hb dX2_through_129 (lv_at hl 2 rfl) ?_
      refine c_iconst hx hb dX2_through_131 (by decide) (fun v131 i131 => ?_)
      refine c_iadd hx hb dX2_through_132 (by omega) (fun v132 i132 => ?_)
      refine c_iald hx hb hK hP 13 0 rfl rfl (6 * p2.toInt.toNat + 3) (by omega) (by omega) dX2_through_133 (fun v133 e133 => ?_)
      have i133 : v133.toInt = (u21.1 (6 * p2.toInt.toNat + 3)).toInt := by rw [e133]
      refine c_isub hx hb dX2_through_134 (by omega) (fun v134 i134 => ?_)
      refine lv_aload_n hx hb dX2_through_135 rfl (lv_at hl 3 rfl) ?_
      refine va_get (D := D) (ci := 2) (v := .ref (ad 16)) (C := RX2) (T := TX2) (N := 21) hx hb hts inX2 hown hK hP 0 rfl rfl 19 (by decide) fl59 (fun _ h9 => h9) rfl dX2_through_136 ?_
      refine c_iconst hx hb dX2_through_139 (by decide) (fun v139 i139 => ?_)
      refine c_iald hx hb hK hP 16 0 rfl rfl (3) (by omega) (by omega) dX2_through_140 (fun v140 e140 => ?_)
      have i140 : v140.toInt = (u36 (3)).toInt := by rw [e140]
      refine c_isub hx hb dX2_through_141 (by omega) (fun v141 i141 => ?_)
      refine lv_aload_n hx hb dX2_through_142 rfl (lv_at hl 3 rfl) ?_
      refine va_get (D := D) (ci := 2) (v := .ref (ad 16)) (C := RX2) (T := TX2) (N := 21) hx hb hts inX2 hown hK hP 0 rfl rfl 19 (by decide) fl59 (fun _ h9 => h9) rfl dX2_through_143 ?_
      refine c_iconst hx hb dX2_through_146 (by decide) (fun v146 i146 => ?_)
      refine c_iald hx hb hK hP 16 0 rfl rfl (5) (by omega) (by omega) dX2_through_147 (fun v147 e147 => ?_)
      have i147 : v147.toInt = (u36 (5)).toInt := by rw [e147]
      refine c_isub hx hb dX2_through_148 (by omega) (fun v148 i148 => ?_)
      refine lv_istore (lv' := [(7, .int v148), (6, .int v112), (5, .int v78), (4, .int v42), (0, .ref (ad 0)), (1, .int p1), (2, .int p2), (3, .int p3)]) hx hb dX2_through_149 hl (by decide) rfl (fun ls hl => ?_)
      refine lv_aload_n hx hb dX2_through_151 rfl (lv_at hl 4 rfl) ?_
      refine va_get (D := D) (ci := 2) (v := .ref (ad 14)) (C := RX2) (T := TX2) (N := 21) hx hb hts inX2 hown hK hP 0 rfl rfl 17 (by decide) fl53 (fun _ h9 => h9) rfl dX2_through_152 ?_
      refine lv_iload hx hb dX2_through_155 (lv_at hl 3 rfl) ?_
      refine c_bipush hx hb dX2_through_157 (by decide) (fun v157 i157 => ?_)
      refine c_iadd hx hb dX2_through_159 (by omega) (fun v159 i159 => ?_)
      refine c_iald hx hb hK hP 14 0 rfl rfl (6 * p2.toInt.toNat + 9) (by omega) (by omega) dX2_through_160 (fun v160 e160 => ?_)
      have i160 : v160.toInt = (u21.2.1 (6 * p2.toInt.toNat + 9)).toInt := by rw [e160]
      refine lv_aload_n hx hb dX2_through_161 rfl (lv_at hl 4 rfl) ?_
      refine va_get (D := D) (ci := 2) (v := .ref (ad 13)) (C := RX2) (T := TX2) (N := 21) hx hb hts inX2 hown hK hP 0 rfl rfl 16 (by decide) fl50 (fun _ h9 => h9) rfl dX2_through_162 ?_
      refine lv_iload hx hb dX2_through_165 (lv_at hl 3 rfl) ?_
      refine c_iconst hx hb dX2_through_167 (by decide) (fun v167 i167 => ?_)
      refine c_iadd hx hb dX2_through_168 (by omega) (fun v168 i168 => ?_)
      refine c_iald hx hb hK hP 13 0 rfl rfl (6 * p2.toInt.toNat + 2) (by omega) (by omega) dX2_through_169 (fun v169 e169 => ?_)
      have i169 : v169.toInt = (u21.1 (6 * p2.toInt.toNat + 2)).toInt := by rw [e169]
      refine c_isub hx hb dX2_through_170 (by omega) (fun v170 i170 => ?_)
      refine lv_aload_n hx hb dX2_through_171 rfl (lv_at hl 4 rfl) ?_
      refine va_get (D := D) (ci := 2) (v := .ref (ad 16)) (C := RX2) (T := TX2) (N := 21) hx hb hts inX2 hown hK hP 0 rfl rfl 19 (by decide) fl59 (fun _ h9 => h9) rfl dX2_through_172 ?_
      refine c_iconst hx hb dX2_through_175 (by decide) (fun v175 i175 => ?_)
      refine c_iald hx hb hK hP 16 0 rfl rfl (2) (by omega) (by omega) dX2_through_176 (fun v176 e176 => ?_)
      have i176 : v176.toInt = (u36 (2)).toInt := by rw [e176]
      refine c_isub hx hb dX2_through_177 (by omega) (fun v177 i177 => ?_)
      refine lv_aload_n hx hb dX2_through_178 rfl (lv_at hl 4 rfl) ?_
      refine va_get (D := D) (ci := 2) (v := .ref (ad 16)) (C := RX2) (T := TX2) (N := 21) hx hb hts inX2 hown hK hP 0 rfl rfl 19 (by decide) fl59 (fun _ h9 => h9) rfl dX2_through_179 ?_
      refine c_iconst hx hb dX2_through_182 (by decide) (fun v182 i182 => ?_)
      refine c_iald hx hb hK hP 16 0 rfl rfl (4) (by omega) (by omega) dX2_through_183 (fun v183 e183 => ?_)
      have i183 : v183.toInt = (u36 (4)).toInt := by rw [e183]
      refine c_isub hx hb dX2_through_184 (by omega) (fun v184 i184 => ?_)
      refine lv_istore (lv' := [(8, .int v184), (7, .int v148), (6, .int v112), (5, .int v78), (4, .int v42), (0, .ref (ad 0)), (1, .int p1), (2, .int p2), (3, .int p3)]) hx hb dX2_through_185 hl (by decide) rfl (fun ls hl => ?_)
      refine lv_aload_n hx hb dX2_through_187 rfl (lv_at hl 5 rfl) ?_
      refine va_get (D := D) (ci := 2) (v := .ref (ad 14)) (C := RX2) (T := TX2) (N := 21) hx hb hts inX2 hown hK hP 0 rfl rfl 17 (by decide) fl53 (fun _ h9 => h9) rfl dX2_through_188 ?_
      refine lv_iload hx hb dX2_through_191 (lv_at hl 4 rfl) ?_
      refine c_bipush hx hb dX2_through_193 (by decide) (fun v193 i193 => ?_)
      refine c_iadd hx hb dX2_through_195 (by omega) (fun v195 i195 => ?_)
      refine c_iald hx hb hK hP 14 0 rfl rfl (6 * p2.toInt.toNat + 10) (by omega) (by omega) dX2_through_196 (fun v196 e196 => ?_)
      have i196 : v196.toInt = (u21.2.1 (6 * p2.toInt.toNat + 10)).toInt := by rw [e196]
      refine lv_aload_n hx hb dX2_through_197 rfl (lv_at hl 5 rfl) ?_
      refine va_get (D := D) (ci := 2) (v := .ref (ad 13)) (C := RX2) (T := TX2) (N := 21) hx hb hts inX2 hown hK hP 0 rfl rfl 16 (by decide) fl50 (fun _ h9 => h9) rfl dX2_through_198 ?_
      refine lv_iload hx hb dX2_through_201 (lv_at hl 4 rfl) ?_
      refine c_iconst hx hb dX2_through_203 (by decide) (fun v203 i203 => ?_)
      refine c_iadd hx hb dX2_through_204 (by omega) (fun v204 i204 => ?_)
      refine c_iald hx hb hK hP 13 0 rfl rfl (6 * p2.toInt.toNat + 5) (by omega) (by omega) dX2_through_205 (fun v205 e205 => ?_)
      have i205 : v205.toInt = (u21.1 (6 * p2.toInt.toNat + 5)).toInt := by rw [e205]
      refine c_isub hx hb dX2_through_206 (by omega) (fun v206 i206 => ?_)
      refine lv_aload_n hx hb dX2_through_207 rfl (lv_at hl 5 rfl) ?_
      refine va_get (D := D) (ci := 2) (v := .ref (ad 16)) (C := RX2) (T := TX2) (N := 21) hx hb hts inX2 hown hK hP 0 rfl rfl 19 (by decide) fl59 (fun _ h9 => h9) rfl dX2_through_208 ?_
      refine c_iconst hx hb dX2_through_211 (by decide) (fun v211 i211 => ?_)
      refine c_iald hx hb hK hP 16 0 rfl rfl (1) (by omega) (by omega) dX2_through_212 (fun v212 e212 => ?_)
      have i212 : v212.toInt = (u36 (1)).toInt := by rw [e212]
      refine c_isub hx hb dX2_through_213 (by omega) (fun v213 i213 => ?_)
      refine lv_aload_n hx hb dX2_through_214 rfl (lv_at hl 5 rfl) ?_
      refine va_get (D := D) (ci := 2) (v := .ref (ad 16)) (C := RX2) (T := TX2) (N := 21) hx hb hts inX2 hown hK hP 0 rfl rfl 19 (by decide) fl59 (fun _ h9 => h9) rfl dX2_through_215 ?_
      refine c_iconst hx hb dX2_through_218 (by decide) (fun v218 i218 => ?_)
      refine c_iald hx hb hK hP 16 0 rfl rfl (3) (by omega) (by omega) dX2_through_219 (fun v219 e219 => ?_)
      have i219 : v219.toInt = (u36 (3)).toInt := by rw [e219]
      refine c_isub hx hb dX2_through_220 (by omega) (fun v220 i220 => ?_)
      refine lv_istore (lv' := [(9, .int v220), (8, .int v184), (7, .int v148), (6, .int v112), (5, .int v78), (4, .int v42), (0, .ref (ad 0)), (1, .int p1), (2, .int p2), (3, .int p3)]) hx hb dX2_through_221 hl (by decide) rfl (fun ls hl => ?_)
      refine lv_aload_n hx hb dX2_through_223 rfl (lv_at hl 6 rfl) ?_
      refine va_get (D := D) (ci := 2) (v := .ref (ad 14)) (C := RX2) (T := TX2) (N := 21) hx hb hts inX2 hown hK hP 0 rfl rfl 17 (by decide) fl53 (fun _ h9 => h9) rfl dX2_through_224 ?_
      refine lv_iload hx hb dX2_through_227 (lv_at hl 5 rfl) ?_
      refine c_bipush hx hb dX2_through_229 (by decide) (fun v229 i229 => ?_)
      refine c_iadd hx hb dX2_through_231 (by omega) (fun v231 i231 => ?_)
      refine c_iald hx hb hK hP 14 0 rfl rfl (6 * p2.toInt.toNat + 11) (by omega) (by omega) dX2_through_232 (fun v232 e232 => ?_)
      have i232 : v232.toInt = (u21.2.1 (6 * p2.toInt.toNat + 11)).toInt := by rw [e232]
      refine lv_aload_n hx hb dX2_through_233 rfl (lv_at hl 6 rfl) ?_
      refine va_get (D := D) (ci := 2) (v := .ref (ad 13)) (C := RX2) (T := TX2) (N := 21) hx hb hts inX2 hown hK hP 0 rfl rfl 16 (by decide) fl50 (fun _ h9 => h9) rfl dX2_through_234 ?_
      refine lv_iload hx hb dX2_through_237 (lv_at hl 5 rfl) ?_
      refine c_iconst hx hb dX2_through_239 (by decide) (fun v239 i239 => ?_)
      refine c_iadd hx hb dX2_through_240 (by omega) (fun v240 i240 => ?_)
      refine c_iald hx hb hK hP 13 0 rfl rfl (6 * p2.toInt.toNat + 4) (by omega) (by omega) dX2_through_241 (fun v241 e241 => ?_)
      have i241 : v241.toInt = (u21.1 (6 * p2.toInt.toNat + 4)).toInt := by rw [e241]
      refine c_isub hx hb dX2_through_242 (by omega) (fun v242 i242 => ?_)
      refine lv_aload_n hx hb dX2_through_243 rfl (lv_at hl 6 rfl) ?_
      refine va_get (D := D) (ci := 2) (v := .ref (ad 16)) (C := RX2) (T := TX2) (N := 21) hx hb hts inX2 hown hK hP 0 rfl rfl 19 (by decide) fl59 (fun _ h9 => h9) rfl dX2_through_244 ?_
      refine c_iconst hx hb dX2_through_247 (by decide) (fun v247 i247 => ?_)
      refine c_iald hx hb hK hP 16 0 rfl rfl (0) (by omega) (by omega) dX2_through_248 (fun v248 e248 => ?_)
      have i248 : v248.toInt = (u36 (0)).toInt := by rw [e248]
      refine c_isub hx hb dX2_through_249 (by omega) (fun v249 i249 => ?_)
      refine lv_aload_n hx hb dX2_through_250 rfl (lv_at hl 6 rfl) ?_
      refine va_get (D := D) (ci := 2) (v := .ref (ad 16)) (C := RX2) (T := TX2) (N := 21) hx hb hts inX2 hown hK hP 0 rfl rfl 19 (by decide) fl59 (fun _ h9 => h9) rfl dX2_through_251 ?_
      refine c_iconst hx hb dX2_through_254 (by decide) (fun v254 i254 => ?_)
      refine c_iald hx hb hK hP 16 0 rfl rfl (2) (by omega) (by omega) dX2_through_255 (fun v255 e255 => ?_)
      have i255 : v255.toInt = (u36 (2)).toInt := by rw [e255]
      refine c_isub hx hb dX2_through_256 (by omega) (fun v256 i256 => ?_)
      refine lv_istore (lv' := [(10, .int v256), (9, .int v220), (8, .int v184), (7, .int v148), (6, .int v112), (5, .int v78), (4, .int v42), (0, .ref (ad 0)), (1, .int p1), (2, .int p2), (3, .int p3)]) hx hb dX2_through_257 hl (by decide) rfl (fun ls hl => ?_)
      refine lv_aload_n hx hb dX2_through_259 rfl (lv_at hl 7 rfl) ?_
      refine lv_iload_n hx hb dX2_through_260 rfl (lv_at hl 8 rfl) ?_
      refine lv_iload_n hx hb dX2_through_261 rfl (lv_at hl 9 rfl) ?_
      refine c_wvi (As := [.int p1, .int p2]) (ci := 2) (q0 := 0) (kX2_netLow l D cI ad f u21.1 u21.2.1 u21.2.2.1 u36 T Dv C 0 0 Tn Dn Cn p1 p2 (p1.toInt.toNat) (p2.toInt.toNat) hT hDv hC hI (by omega) (by omega) (by omega) (by omega) (by decide)) ⟨hx, hb, hml, hown, hts⟩ (cwV 2 hts gX2_through_X2_netLow rfl rfl rfl (by decide +kernel) ⟨Nat.le_of_ble_eq_true rfl, Nat.le_of_ble_eq_true rfl⟩) hK hP hD hS hA rfl rfl rfl rfl hl.1 rfl (Nat.le_of_ble_eq_true rfl) dX2_through_262 ⟨Nat.zero_le _, Nat.zero_le _⟩ (fun r262 u262 H locs q262 hP hD hS => ?_)
      try dsimp only at q262
      have hP : va_P D vwCl (WM cI ad f u21.1 u21.2.1 u21.2.2.1 u36 T Dv C 0 0) H := hP
      have hD : va_D A (WM cI ad f u21.1 u21.2.1 u21.2.2.1 u36 T Dv C 0 0) := hD
      refine lv_istore (lv' := [(11, .int r262), (10, .int v256), (9, .int v220), (8, .int v184), (7, .int v148), (6, .int v112), (5, .int v78), (4, .int v42), (0, .ref (ad 0)), (1, .int p1), (2, .int p2), (3, .int p3)]) hx hb dX2_through_265 hl (by decide) rfl (fun ls hl => ?_)
      refine lv_aload_n hx hb dX2_through_267 rfl (lv_at hl 8 rfl) ?_
      refine lv_iload_n hx hb dX2_through_268 rfl (lv_at hl 9 rfl) ?_
      refine lv_iload_n hx hb dX2_through_269 rfl (lv_at hl 10 rfl) ?_
      refine c_wvi (As := [.int p1, .int p2]) (ci := 2) (q0 := 0) (kX2_netHigh l D cI ad f u21.1 u21.2.1 u21.2.2.1 u36 T Dv C 0 0 Tn Dn Cn p1 p2 (p1.toInt.toNat) (p2.toInt.toNat) hT hDv hC hI (by omega) (by omega) (by omega) (by omega) (by decide)) ⟨hx, hb, hml, hown, hts⟩ (cwV 2 hts gX2_through_X2_netHigh rfl rfl rfl (by decide +kernel) ⟨Nat.le_of_ble_eq_true rfl, Nat.le_of_ble_eq_true rfl⟩) hK hP hD hS hA rfl rfl rfl rfl hl.1 rfl (Nat.le_of_ble_eq_true rfl) dX2_through_270 ⟨Nat.zero_le _, Nat.zero_le _⟩ (fun r270 u270 H locs q270 hP hD hS => ?_)
      try dsimp only at q270
      have hP : va_P D vwCl (WM cI ad f u21.1 u21.2.1 u21.2.2.1 u36 T Dv C 0 0) H := hP
      have hD : va_D A (WM cI ad f u21.1 u21.2.1 u21.2.2.1 u36 T Dv C 0 0) := hD
      refine lv_istore (lv' := [(12, .int r270), (11, .int r262), (10, .int v256), (9, .int v220), (8, .int v184), (7, .int v148), (6, .int v112), (5, .int v78), (4, .int v42), (0, .ref (ad 0)), (1, .int p1), (2, .int p2), (3, .int p3)]) hx hb dX2_through_273 hl (by decide) rfl (fun ls hl => ?_)
      have aL : v78.toInt = (rwM u21.2.1 (p2.toInt.toNat + 1)) 0 - (rwM u21.1 p2.toInt.toNat) 1 - (crow (mvs f p2.toInt.toNat 0 p1.toInt Dn)) 1 := by omega
      have aH : v112.toInt = (rwM u21.2.1 (p2.toInt.toNat + 1)) 1 - (rwM u21.1 p2.toInt.toNat) 0 - (crow (mvs f p2.toInt.toNat 0 p1.toInt Dn)) 0 := by omega
      have bL : v148.toInt = (rwM u21.2.1 (p2.toInt.toNat + 1)) 2 - (rwM u21.1 p2.toInt.toNat) 3 - (crow (mvs f p2.toInt.toNat 0 p1.toInt Dn)) 3 := by omega
      have bH : v184.toInt = (rwM u21.2.1 (p2.toInt.toNat + 1)) 3 - (rwM u21.1 p2.toInt.toNat) 2 - (crow (mvs f p2.toInt.toNat 0 p1.toInt Dn)) 2 := by omega
      have sL : v220.toInt = (rwM u21.2.1 (p2.toInt.toNat + 1)) 4 - (rwM u21.1 p2.toInt.toNat) 5 - (crow (mvs f p2.toInt.toNat 0 p1.toInt Dn)) 5 := by omega
      have sH : v256.toInt = (rwM u21.2.1 (p2.toInt.toNat + 1)) 5 - (rwM u21.1 p2.toInt.toNat) 4 - (crow (mvs f p2.toInt.toNat 0 p1.toInt Dn)) 4 := by omega
      have q262 : r262.toInt = nLo f p1.toInt.toNat p2.toInt.toNat 0 := q262
      have q270 : r270.toInt = nHi f p1.toInt.toNat p2.toInt.toNat 0 := q270
      refine lv_aload_n hx hb dX2_through_275 rfl (lv_at hl 9 rfl) ?_
      refine va_get (D := D) (ci := 2) (v := .ref (ad 1)) (C := RX2) (T := TX2) (N := 21) hx hb hts inX2 hown hK hP 0 rfl rfl 2 (by decide) fl13 (fun _ h9 => h9) rfl dX2_through_276 ?_
      refine lv_iload_n hx hb dX2_through_279 rfl (lv_at hl 10 rfl) ?_
      refine c_iald hx hb hK hP 1 0 rfl rfl (p1.toInt.toNat) (by omega) (by omega) dX2_through_280 (fun v280 e280 => ?_)
      have i280 : v280.toInt = ((f 0) (p1.toInt.toNat)).toInt := by rw [e280]
      refine c_if_ne (tgt := 315) hx hb dX2_through_281 (by decide) (fun c281 => ?_) (fun c281 => ?_)
      · skip
        refine lv_aload_n hx hb dX2_through_315 rfl (lv_at hl 9 rfl) ?_
        refine va_get (D := D) (ci := 2) (v := .ref (ad 1)) (C := RX2) (T := TX2) (N := 21) hx hb hts inX2 hown hK hP 0 rfl rfl 2 (by decide) fl13 (fun _ h9 => h9) rfl dX2_through_316 ?_
        refine lv_iload_n hx hb dX2_through_319 rfl (lv_at hl 10 rfl) ?_
        refine c_iald hx hb hK hP 1 0 rfl rfl (p1.toInt.toNat) (by omega) (by omega) dX2_through_320 (fun v320 e320 => ?_)
        have i320 : v320.toInt = ((f 0) (p1.toInt.toNat)).toInt := by rw [e320]
        refine c_iconst hx hb dX2_through_321 (by decide) (fun v321 i321 => ?_)
        refine c_icmp_ne (tgt := 356) hx hb dX2_through_322 (by decide) (fun c322 => ?_) (fun c322 => ?_)
        · skip
          refine lv_iload hx hb dX2_through_356 (lv_at hl 1 rfl) ?_
          refine lv_iload hx hb dX2_through_358 (lv_at hl 5 rfl) ?_
          refine lv_iload hx hb dX2_through_360 (lv_at hl 6 rfl) ?_
          refine c_ineg hx hb dX2_through_362 (by omega) (fun v362 i362 => ?_)
          refine c_cpi (As := [.int v148, .int v362]) (kX2_greater l D cI v148 v362) ⟨hx, hb, hml, hown, hts⟩ (va_cwS 2 hts gX2_through_X2_greater rfl rfl rfl (by decide +kernel) ⟨Nat.le_of_ble_eq_true rfl, Nat.le_of_ble_eq_true rfl⟩) hK hP hS hA rfl hl.1 rfl (Nat.le_of_ble_eq_true rfl) dX2_through_363 ⟨Nat.zero_le _, Nat.zero_le _⟩ (fun r363 H locs q363 hP hS => ?_)
          try dsimp only at q363
          refine c_cpi (As := [.int r262, .int r363]) (kX2_greater l D cI r262 r363) ⟨hx, hb, hml, hown, hts⟩ (va_cwS 2 hts gX2_through_X2_greater rfl rfl rfl (by decide +kernel) ⟨Nat.le_of_ble_eq_true rfl, Nat.le_of_ble_eq_true rfl⟩) hK hP hS hA rfl hl.1 rfl (Nat.le_of_ble_eq_true rfl) dX2_through_366 ⟨Nat.zero_le _, Nat.zero_le _⟩ (fun r366 H locs q366 hP hS => ?_)
          try dsimp only at q366
          refine lv_istore (lv' := [(11, .int r366), (12, .int r270), (10, .int v256), (9, .int v220), (8, .int v184), (7, .int v148), (6, .int v112), (5, .int v78), (4, .int v42), (0, .ref (ad 0)), (1, .int p1), (2, .int p2), (3, .int p3)]) hx hb dX2_through_369 hl (by decide) rfl (fun ls hl => ?_)
          refine lv_iload hx hb dX2_through_371 (lv_at hl 1 rfl) ?_
          refine lv_iload hx hb dX2_through_373 (lv_at hl 4 rfl) ?_
          refine lv_iload hx hb dX2_through_375 (lv_at hl 7 rfl) ?_
          refine c_ineg hx hb dX2_through_377 (by omega) (fun v377 i377 => ?_)
          refine c_cpi (As := [.int v184, .int v377]) (kX2_lesser l D cI v184 v377) ⟨hx, hb, hml, hown, hts⟩ (va_cwS 2 hts gX2_through_X2_lesser rfl rfl rfl (by decide +kernel) ⟨Nat.le_of_ble_eq_true rfl, Nat.le_of_ble_eq_true rfl⟩) hK hP hS hA rfl hl.1 rfl (Nat.le_of_ble_eq_true rfl) dX2_through_378 ⟨Nat.zero_le _, Nat.zero_le _⟩ (fun r378 H locs q378 hP hS => ?_)
          try dsimp only at q378
          refine c_cpi (As := [.int r270, .int r378]) (kX2_lesser l D cI r270 r378) ⟨hx, hb, hml, hown, hts⟩ (va_cwS 2 hts gX2_through_X2_lesser rfl rfl rfl (by decide +kernel) ⟨Nat.le_of_ble_eq_true rfl, Nat.le_of_ble_eq_true rfl⟩) hK hP hS hA rfl hl.1 rfl (Nat.le_of_ble_eq_true rfl) dX2_through_381 ⟨Nat.zero_le _, Nat.zero_le _⟩ (fun r381 H locs q381 hP hS => ?_)
          try dsimp only at q381
          refine lv_istore (lv' := [(12, .int r381), (11, .int r366), (10, .int v256), (9, .int v220), (8, .int v184), (7, .int v148), (6, .int v112), (5, .int v78), (4, .int v42), (0, .ref (ad 0)), (1, .int p1), (2, .int p2), (3, .int p3)]) hx hb dX2_through_384 hl (by decide) rfl (fun ls hl => ?_)
          refine lv_iload_n hx hb dX2_through_386 rfl (lv_at hl 12 rfl) ?_
          refine c_if_eq (tgt := 395) hx hb dX2_through_387 (by decide) (fun c387 => ?_) (fun c387 => ?_)
          · skip
            refine lv_iload hx hb dX2_through_395 (lv_at hl 1 rfl) ?_
            exact c_ri (u21.1, u21.2.1, u21.2.2.1, u36, 0, 0) hx hb hr hlocks hK hP hD hS dX2_through_397 (by
                      have g1 : r363.toInt = max _ _ := q363
                      have g2 : r366.toInt = max _ _ := q366
                      have g3 : r378.toInt = min _ _ := q378
                      have g4 : r381.toInt = min _ _ := q381
                      refine Or.inr (Or.inr ⟨by omega, rows_T (R := fun j => rwM u21.1 j) (fun j hj => (hy j hj).1), rfl, (rwM u21.1 p2.toInt.toNat), (rwM u21.2.1 (p2.toInt.toNat + 1)), (crow (mvs f p2.toInt.toNat 0 p1.toInt Dn)), hTx, hTy, ⟨rfl, rfl, rfl, rfl, rfl, rfl⟩, ?_⟩)
                      (try dsimp only)
                      rw [if_pos (by omega)]; unfold thL; rw [if_neg (by omega), if_neg (by omega), g2, g1, q262, i362, bL, aH])
          · skip
            refine lv_iload hx hb dX2_through_390 (lv_at hl 0 rfl) ?_
            refine lv_goto (tgt := 397) hx hb dX2_through_392 (by decide) ?_
            exact c_ri (u21.1, u21.2.1, u21.2.2.1, u36, 0, 0) hx hb hr hlocks hK hP hD hS dX2_through_397 (by
                      have g1 : r363.toInt = max _ _ := q363
                      have g2 : r366.toInt = max _ _ := q366
                      have g3 : r378.toInt = min _ _ := q378
                      have g4 : r381.toInt = min _ _ := q381
                      refine Or.inr (Or.inr ⟨by omega, rows_T (R := fun j => rwM u21.1 j) (fun j hj => (hy j hj).1), rfl, (rwM u21.1 p2.toInt.toNat), (rwM u21.2.1 (p2.toInt.toNat + 1)), (crow (mvs f p2.toInt.toNat 0 p1.toInt Dn)), hTx, hTy, ⟨rfl, rfl, rfl, rfl, rfl, rfl⟩, ?_⟩)
                      (try dsimp only)
                      rw [if_neg (by omega)]; unfold thH; rw [if_neg (by omega), if_neg (by omega), g4, g3, q270, i377, bH, aL])
        · skip
          refine lv_iload hx hb dX2_through_325 (lv_at hl 1 rfl) ?_
          refine lv_iload hx hb dX2_through_327 (lv_at hl 5 rfl) ?_
          refine lv_iload hx hb dX2_through_329 (lv_at hl 3 rfl) ?_
          refine c_cpi (As := [.int v148, .int v220]) (kX2_greater l D cI v148 v220) ⟨hx, hb, hml, hown, hts⟩ (va_cwS 2 hts gX2_through_X2_greater rfl rfl rfl (by decide +kernel) ⟨Nat.le_of_ble_eq_true rfl, Nat.le_of_ble_eq_true rfl⟩) hK hP hS hA rfl hl.1 rfl (Nat.le_of_ble_eq_true rfl) dX2_through_331 ⟨Nat.zero_le _, Nat.zero_le _⟩ (fun r331 H locs q331 hP hS => ?_)
          try dsimp only at q331
          refine c_cpi (As := [.int r262, .int r331]) (kX2_greater l D cI r262 r331) ⟨hx, hb, hml, hown, hts⟩ (va_cwS 2 hts gX2_through_X2_greater rfl rfl rfl (by decide +kernel) ⟨Nat.le_of_ble_eq_true rfl, Nat.le_of_ble_eq_true rfl⟩) hK hP hS hA rfl hl.1 rfl (Nat.le_of_ble_eq_true rfl) dX2_through_334 ⟨Nat.zero_le _, Nat.zero_le _⟩ (fun r334 H locs q334 hP hS => ?_)
          try dsimp only at q334
          refine lv_istore (lv' := [(11, .int r334), (12, .int r270), (10, .int v256), (9, .int v220), (8, .int v184), (7, .int v148), (6, .int v112), (5, .int v78), (4, .int v42), (0, .ref (ad 0)), (1, .int p1), (2, .int p2), (3, .int p3)]) hx hb dX2_through_337 hl (by decide) rfl (fun ls hl => ?_)
          refine lv_iload hx hb dX2_through_339 (lv_at hl 1 rfl) ?_
          refine lv_iload hx hb dX2_through_341 (lv_at hl 4 rfl) ?_
          refine lv_iload hx hb dX2_through_343 (lv_at hl 2 rfl) ?_
          refine c_cpi (As := [.int v184, .int v256]) (kX2_lesser l D cI v184 v256) ⟨hx, hb, hml, hown, hts⟩ (va_cwS 2 hts gX2_through_X2_lesser rfl rfl rfl (by decide +kernel) ⟨Nat.le_of_ble_eq_true rfl, Nat.le_of_ble_eq_true rfl⟩) hK hP hS hA rfl hl.1 rfl (Nat.le_of_ble_eq_true rfl) dX2_through_345 ⟨Nat.zero_le _, Nat.zero_le _⟩ (fun r345 H locs q345 hP hS => ?_)
          try dsimp only at q345
          refine c_cpi (As := [.int r270, .int r345]) (kX2_lesser l D cI r270 r345) ⟨hx, hb, hml, hown, hts⟩ (va_cwS 2 hts gX2_through_X2_lesser rfl rfl rfl (by decide +kernel) ⟨Nat.le_of_ble_eq_true rfl, Nat.le_of_ble_eq_true rfl⟩) hK hP hS hA rfl hl.1 rfl (Nat.le_of_ble_eq_true rfl) dX2_through_348 ⟨Nat.zero_le _, Nat.zero_le _⟩ (fun r348 H locs q348 hP hS => ?_)
          try dsimp only at q348
          refine lv_istore (lv' := [(12, .int r348), (11, .int r334), (10, .int v256), (9, .int v220), (8, .int v184), (7, .int v148), (6, .int v112), (5, .int v78), (4, .int v42), (0, .ref (ad 0)), (1, .int p1), (2, .int p2), (3, .int p3)]) hx hb dX2_through_351 hl (by decide) rfl (fun ls hl => ?_)
          refine lv_goto (tgt := 386) hx hb dX2_through_353 (by decide) ?_
          refine lv_iload_n hx hb dX2_through_386 rfl (lv_at hl 12 rfl) ?_
          refine c_if_eq (tgt := 395) hx hb dX2_through_387 (by decide) (fun c387_2 => ?_) (fun c387_2 => ?_)
          · skip
            refine lv_iload hx hb dX2_through_395 (lv_at hl 1 rfl) ?_
            exact c_ri (u21.1, u21.2.1, u21.2.2.1, u36, 0, 0) hx hb hr hlocks hK hP hD hS dX2_through_397 (by
                      have g1 : r331.toInt = max _ _ := q331
                      have g2 : r334.toInt = max _ _ := q334
                      have g3 : r345.toInt = min _ _ := q345
                      have g4 : r348.toInt = min _ _ := q348
                      refine Or.inr (Or.inr ⟨by omega, rows_T (R := fun j => rwM u21.1 j) (fun j hj => (hy j hj).1), rfl, (rwM u21.1 p2.toInt.toNat), (rwM u21.2.1 (p2.toInt.toNat + 1)), (crow (mvs f p2.toInt.toNat 0 p1.toInt Dn)), hTx, hTy, ⟨rfl, rfl, rfl, rfl, rfl, rfl⟩, ?_⟩)
                      (try dsimp only)
                      rw [if_pos (by omega)]; unfold thL; rw [if_neg (by omega), if_pos (by omega), g2, g1, q262, bL, sL])
          · skip
            refine lv_iload hx hb dX2_through_390 (lv_at hl 0 rfl) ?_
            refine lv_goto (tgt := 397) hx hb dX2_through_392 (by decide) ?_
            exact c_ri (u21.1, u21.2.1, u21.2.2.1, u36, 0, 0) hx hb hr hlocks hK hP hD hS dX2_through_397 (by
                      have g1 : r331.toInt = max _ _ := q331
                      have g2 : r334.toInt = max _ _ := q334
                      have g3 : r345.toInt = min _ _ := q345
                      have g4 : r348.toInt = min _ _ := q348
                      refine Or.inr (Or.inr ⟨by omega, rows_T (R := fun j => rwM u21.1 j) (fun j hj => (hy j hj).1), rfl, (rwM u21.1 p2.toInt.toNat), (rwM u21.2.1 (p2.toInt.toNat + 1)), (crow (mvs f p2.toInt.toNat 0 p1.toInt Dn)), hTx, hTy, ⟨rfl, rfl, rfl, rfl, rfl, rfl⟩, ?_⟩)
                      (try dsimp only)
                      rw [if_neg (by omega)]; unfold thH; rw [if_neg (by omega), if_pos (by omega), g4, g3, q270, bH, sH])
      · skip
        refine lv_iload hx hb dX2_through_284 (lv_at hl 1 rfl) ?_
        refine lv_iload hx hb dX2_through_286 (lv_at hl 7 rfl) ?_
        refine lv_iload hx hb dX2_through_288 (lv_at hl 3 rfl) ?_
        refine c_cpi (As := [.int v78, .int v220]) (kX2_greater l D cI v78 v220) ⟨hx, hb, hml, hown, hts⟩ (va_cwS 2 hts gX2_through_X2_greater rfl rfl rfl (by decide +kernel) ⟨Nat.le_of_ble_eq_true rfl, Nat.le_of_ble_eq_true rfl⟩) hK hP hS hA rfl hl.1 rfl (Nat.le_of_ble_eq_true rfl) dX2_through_290 ⟨Nat.zero_le _, Nat.zero_le _⟩ (fun r290 H locs q290 hP hS => ?_)
        try dsimp only at q290
        refine c_cpi (As := [.int r262, .int r290]) (kX2_greater l D cI r262 r290) ⟨hx, hb, hml, hown, hts⟩ (va_cwS 2 hts gX2_through_X2_greater rfl rfl rfl (by decide +kernel) ⟨Nat.le_of_ble_eq_true rfl, Nat.le_of_ble_eq_true rfl⟩) hK hP hS hA rfl hl.1 rfl (Nat.le_of_ble_eq_true rfl) dX2_through_293 ⟨Nat.zero_le _, Nat.zero_le _⟩ (fun r293 H locs q293 hP hS => ?_)
        try dsimp only at q293
        refine lv_istore (lv' := [(11, .int r293), (12, .int r270), (10, .int v256), (9, .int v220), (8, .int v184), (7, .int v148), (6, .int v112), (5, .int v78), (4, .int v42), (0, .ref (ad 0)), (1, .int p1), (2, .int p2), (3, .int p3)]) hx hb dX2_through_296 hl (by decide) rfl (fun ls hl => ?_)
        refine lv_iload hx hb dX2_through_298 (lv_at hl 1 rfl) ?_
        refine lv_iload hx hb dX2_through_300 (lv_at hl 6 rfl) ?_
        refine lv_iload hx hb dX2_through_302 (lv_at hl 2 rfl) ?_
        refine c_cpi (As := [.int v112, .int v256]) (kX2_lesser l D cI v112 v256) ⟨hx, hb, hml, hown, hts⟩ (va_cwS 2 hts gX2_through_X2_lesser rfl rfl rfl (by decide +kernel) ⟨Nat.le_of_ble_eq_true rfl, Nat.le_of_ble_eq_true rfl⟩) hK hP hS hA rfl hl.1 rfl (Nat.le_of_ble_eq_true rfl) dX2_through_304 ⟨Nat.zero_le _, Nat.zero_le _⟩ (fun r304 H locs q304 hP hS => ?_)
        try dsimp only at q304
        refine c_cpi (As := [.int r270, .int r304]) (kX2_lesser l D cI r270 r304) ⟨hx, hb, hml, hown, hts⟩ (va_cwS 2 hts gX2_through_X2_lesser rfl rfl rfl (by decide +kernel) ⟨Nat.le_of_ble_eq_true rfl, Nat.le_of_ble_eq_true rfl⟩) hK hP hS hA rfl hl.1 rfl (Nat.le_of_ble_eq_true rfl) dX2_through_307 ⟨Nat.zero_le _, Nat.zero_le _⟩ (fun r307 H locs q307 hP hS => ?_)
        try dsimp only at q307
        refine lv_istore (lv' := [(12, .int r307), (11, .int r293), (10, .int v256), (9, .int v220), (8, .int v184), (7, .int v148), (6, .int v112), (5, .int v78), (4, .int v42), (0, .ref (ad 0)), (1, .int p1), (2, .int p2), (3, .int p3)]) hx hb dX2_through_310 hl (by decide) rfl (fun ls hl => ?_)
        refine lv_goto (tgt := 386) hx hb dX2_through_312 (by decide) ?_
        refine lv_iload_n hx hb dX2_through_386 rfl (lv_at hl 12 rfl) ?_
        refine c_if_eq (tgt := 395) hx hb dX2_through_387 (by decide) (fun c387_3 => ?_) (fun c387_3 => ?_)
        · skip
          refine lv_iload hx hb dX2_through_395 (lv_at hl 1 rfl) ?_
          exact c_ri (u21.1, u21.2.1, u21.2.2.1, u36, 0, 0) hx hb hr hlocks hK hP hD hS dX2_through_397 (by
                    have g1 : r290.toInt = max _ _ := q290
                    have g2 : r293.toInt = max _ _ := q293
                    have g3 : r304.toInt = min _ _ := q304
                    have g4 : r307.toInt = min _ _ := q307
                    refine Or.inr (Or.inr ⟨by omega, rows_T (R := fun j => rwM u21.1 j) (fun j hj => (hy j hj).1), rfl, (rwM u21.1 p2.toInt.toNat), (rwM u21.2.1 (p2.toInt.toNat + 1)), (crow (mvs f p2.toInt.toNat 0 p1.toInt Dn)), hTx, hTy, ⟨rfl, rfl, rfl, rfl, rfl, rfl⟩, ?_⟩)
                    (try dsimp only)
                    rw [if_pos (by omega)]; unfold thL; rw [if_pos (by omega), g2, g1, q262, aL, sL])
        · skip
          refine lv_iload hx hb dX2_through_390 (lv_at hl 0 rfl) ?_
          refine lv_goto (tgt := 397) hx hb dX2_through_392 (by decide) ?_
          exact c_ri (u21.1, u21.2.1, u21.2.2.1, u36, 0, 0) hx hb hr hlocks hK hP hD hS dX2_through_397 (by
                    have g1 : r290.toInt = max _ _ := q290
                    have g2 : r293.toInt = max _ _ := q293
                    have g3 : r304.toInt = min _ _ := q304
                    have g4 : r307.toInt = min _ _ := q307
                    refine Or.inr (Or.inr ⟨by omega, rows_T (R := fun j => rwM u21.1 j) (fun j hj => (hy j hj).1), rfl, (rwM u21.1 p2.toInt.toNat), (rwM u21.2.1 (p2.toInt.toNat + 1)), (crow (mvs f p2.toInt.toNat 0 p1.toInt Dn)), hTx, hTy, ⟨rfl, rfl, rfl, rfl, rfl, rfl⟩, ?_⟩)
                    (try dsimp only)
                    rw [if_neg (by omega)]; unfold thH; rw [if_pos (by omega), g4, g3, q270, aH, sH])
    · skip
      refine lv_aload_n hx hb dX2_through_27 rfl (lv_at hl 0 rfl) ?_
      refine c_iconst hx hb dX2_through_28 (by decide) (fun v28 i28 => ?_)
      refine c_wvi (As := [.int v28]) (ci := 2) (q0 := 0) (kX2_fails l D cI ad f u21.1 u21.2.1 u21.2.2.1 u21.2.2.2 T Dv C 0 0 v28) ⟨hx, hb, hml, hown, hts⟩ (cwV 1 hts gX2_through_X2_fails rfl rfl rfl (by decide +kernel) ⟨Nat.le_of_ble_eq_true rfl, Nat.le_of_ble_eq_true rfl⟩) hK hP hD hS hA rfl rfl rfl rfl hl.1 rfl (Nat.le_of_ble_eq_true rfl) dX2_through_29 ⟨Nat.zero_le _, Nat.zero_le _⟩ (fun r29 u29 H locs q29 hP hD hS => ?_)
      try dsimp only at q29
      have hP : va_P D vwCl (WM cI ad f u21.1 u21.2.1 u21.2.2.1 u21.2.2.2 T Dv C v28 0) H := hP
      have hD : va_D A (WM cI ad f u21.1 u21.2.1 u21.2.2.1 u21.2.2.2 T Dv C v28 0) := hD
      exact c_ri (u21.1, u21.2.1, u21.2.2.1, u21.2.2.2, v28, 0) hx hb hr hlocks hK hP hD hS dX2_through_32 (Or.inr (Or.inl ⟨by omega, WK_no q21 (by omega), by (try dsimp only); omega⟩))
  · skip
    refine lv_aload_n hx hb dX2_through_14 rfl (lv_at hl 0 rfl) ?_
    refine c_iconst hx hb dX2_through_15 (by decide) (fun v15 i15 => ?_)
    refine c_wvi (As := [.int v15]) (ci := 2) (q0 := 0) (kX2_fails l D cI ad f ah bk bo mv T Dv C 0 mo v15) ⟨hx, hb, hml, hown, hts⟩ (cwV 1 hts gX2_through_X2_fails rfl rfl rfl (by decide +kernel) ⟨Nat.le_of_ble_eq_true rfl, Nat.le_of_ble_eq_true rfl⟩) hK hP hD hS hA rfl rfl rfl rfl hl.1 rfl (Nat.le_of_ble_eq_true rfl) dX2_through_16 ⟨Nat.zero_le _, Nat.zero_le _⟩ (fun r16 u16 H locs q16 hP hD hS => ?_)
    try dsimp only at q16
    have hP : va_P D vwCl (WM cI ad f ah bk bo mv T Dv C v15 mo) H := hP
    have hD : va_D A (WM cI ad f ah bk bo mv T Dv C v15 mo) := hD
    exact c_ri (ah, bk, bo, mv, v15, mo) hx hb hr hlocks hK hP hD hS dX2_through_19 (Or.inl ⟨by omega, by (try dsimp only); omega⟩)
