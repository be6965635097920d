set_option maxHeartbeats 4000000 in
set_option maxRecDepth 100000 in
theorem kX2_forward (l : Launch) (D : va_G) (cI : ClassId) (ad : Nat → Nat) (f : Nat → Nat → Int32) (ah : Nat → Int32) (bk : Nat → Int32) (bo : Nat → Int32) (mv : Nat → Int32) (T : Int32) (Dv : Int32) (C : Int32) (th : Int32) (mo : Int32) (Tn : Nat) (Dn : Nat) (Cn : Nat) (hT : T.toInt = (Tn : Int)) (hDv : Dv.toInt = (Dn : Int)) (hC : C.toInt = (Cn : Int)) (hI : Inv f Tn Dn Cn) (hmo : 0 ≤ mo.toInt ∧ mo.toInt ≤ 5) : MI l yX2_forward wsX2_forward ({ frames := 4, cells := 0, slots := 0, locals := 88 } : Room) D [(cI, .int)] [.ref (ad 0)] (WM cI ad f ah bk bo mv T Dv C th mo) (fun u : (Nat → Int32) × (Nat → Int32) => (WM cI ad f u.1 bk bo u.2 T Dv C th mo)) (fun (r : Int32) (u : (Nat → Int32) × (Nat → Int32)) => LA f Tn Dn Cn mo.toInt r.toInt (fun j => rwM u.1 j)) := by
  refine c_ent (cc := cX2_forward) (maxL := 3) (ret := (some .int)) (Qc := fun A => va_Qi (fun (r : Int32) (u : (Nat → Int32) × (Nat → Int32)) => LA f Tn Dn Cn mo.toInt r.toInt (fun j => rwM u.1 j)) (cB D [(cI, .int)] A (fun u : (Nat → Int32) × (Nat → Int32) => (WM cI ad f u.1 bk bo u.2 T Dv C th mo))) A) (by decide) rfl (Nat.le_of_ble_eq_true rfl) ?_
  intro p e s m below meth c A ls hx hb hr hlocks hts hown hml hK hP hD hA hl
  have hS : va_S A s.heap s.heap [] := va_S.rf
  have hl : lv_has ls 3 [(0, .ref (ad 0))] := hl
  have hP : va_P D vwCl (WM cI ad f ah bk bo mv T Dv C th mo) s.heap := hP
  have fl7 := hts (.fieldLink RX2 7 "DoorBenchModel" "ticks" "I") (by decide +kernel)
  have fl32 := hts (.fieldLink RX2 32 "DoorBenchModel" "low" "[I") (by decide +kernel)
  have fl35 := hts (.fieldLink RX2 35 "DoorBenchModel" "high" "[I") (by decide +kernel)
  have fl50 := hts (.fieldLink RX2 50 "DoorBenchModel" "ahead" "[I") (by decide +kernel)
  have fl59 := hts (.fieldLink RX2 59 "DoorBenchModel" "move" "[I") (by decide +kernel)
  have inX2 : ∀ w ∈ wsX20, w ∈ wsX2_forward := by decide +kernel
  obtain ⟨hI0, hId, hIr, hIs, hIc⟩ := id hI
  have s0 := hIs 0 (by omega)
  have s1 := hIs 1 (by omega)
  refine lv_aload_n hx hb dX2_forward_0 rfl (lv_at hl 0 rfl) ?_
  refine va_get (D := D) (ci := 2) (v := .ref (ad 13)) (C := RX2) (T := TX2) (N := 21) hx hb hts inX2 hown hK hP 0 rfl rfl 16 (by decide) fl50 (fun _ h9 => h9) rfl dX2_forward_1 ?_
  refine c_iconst hx hb dX2_forward_4 (by decide) (fun v4 i4 => ?_)
  refine lv_aload_n hx hb dX2_forward_5 rfl (lv_at hl 0 rfl) ?_
  refine va_get (D := D) (ci := 2) (v := .ref (ad 7)) (C := RX2) (T := TX2) (N := 21) hx hb hts inX2 hown hK hP 0 rfl rfl 8 (by decide) fl32 (fun _ h9 => h9) rfl dX2_forward_6 ?_
  refine c_iconst hx hb dX2_forward_9 (by decide) (fun v9 i9 => ?_)
  refine c_iald hx hb hK hP 7 0 rfl rfl (0) (by omega) (by omega) dX2_forward_10 (fun v10 e10 => ?_)
  have i10 : v10.toInt = ((f 6) (0)).toInt := by rw [e10]
  refine c_iast hx hb hK hP hD hS 13 0 rfl rfl (0) (by omega) (by omega) (WM cI ad f (upd ah (0) v10) bk bo mv T Dv C th mo) rfl dX2_forward_11 (fun H locs hP hD hS => ?_)
  refine lv_aload_n hx hb dX2_forward_12 rfl (lv_at hl 0 rfl) ?_
  refine va_get (D := D) (ci := 2) (v := .ref (ad 13)) (C := RX2) (T := TX2) (N := 21) hx hb hts inX2 hown hK hP 0 rfl rfl 16 (by decide) fl50 (fun _ h9 => h9) rfl dX2_forward_13 ?_
  refine c_iconst hx hb dX2_forward_16 (by decide) (fun v16 i16 => ?_)
  refine lv_aload_n hx hb dX2_forward_17 rfl (lv_at hl 0 rfl) ?_
  refine va_get (D := D) (ci := 2) (v := .ref (ad 8)) (C := RX2) (T := TX2) (N := 21) hx hb hts inX2 hown hK hP 0 rfl rfl 9 (by decide) fl35 (fun _ h9 => h9) rfl dX2_forward_18 ?_
  refine c_iconst hx hb dX2_forward_21 (by decide) (fun v21 i21 => ?_)
  refine c_iald hx hb hK hP 8 0 rfl rfl (0) (by omega) (by omega) dX2_forward_22 (fun v22 e22 => ?_)
  have i22 : v22.toInt = ((f 7) (0)).toInt := by rw [e22]
  refine c_iast hx hb hK hP hD hS 13 0 rfl rfl (1) (by omega) (by omega) (WM cI ad f (upd (upd ah (0) v10) (1) v22) bk bo mv T Dv C th mo) rfl dX2_forward_23 (fun H locs hP hD hS => ?_)
  refine lv_aload_n hx hb dX2_forward_24 rfl (lv_at hl 0 rfl) ?_
  refine va_get (D := D) (ci := 2) (v := .ref (ad 13)) (C := RX2) (T := TX2) (N := 21) hx hb hts inX2 hown hK hP 0 rfl rfl 16 (by decide) fl50 (fun _ h9 => h9) rfl dX2_forward_25 ?_
  refine c_iconst hx hb dX2_forward_28 (by decide) (fun v28 i28 => ?_)
  refine lv_aload_n hx hb dX2_forward_29 rfl (lv_at hl 0 rfl) ?_
  refine va_get (D := D) (ci := 2) (v := .ref (ad 7)) (C := RX2) (T := TX2) (N := 21) hx hb hts inX2 hown hK hP 0 rfl rfl 8 (by decide) fl32 (fun _ h9 => h9) rfl dX2_forward_30 ?_
  refine c_iconst hx hb dX2_forward_33 (by decide) (fun v33 i33 => ?_)
  refine c_iald hx hb hK hP 7 0 rfl rfl (1) (by omega) (by omega) dX2_forward_34 (fun v34 e34 => ?_)
  have i34 : v34.toInt = ((f 6) (1)).toInt := by rw [e34]
  refine c_iast hx hb hK hP hD hS 13 0 rfl rfl (2) (by omega) (by omega) (WM cI ad f (upd (upd (upd ah (0) v10) (1) v22) (2) v34) bk bo mv T Dv C th mo) rfl dX2_forward_35 (fun H locs hP hD hS => ?_)
  refine lv_aload_n hx hb dX2_forward_36 rfl (lv_at hl 0 rfl) ?_
  refine va_get (D := D) (ci := 2) (v := .ref (ad 13)) (C := RX2) (T := TX2) (N := 21) hx hb hts inX2 hown hK hP 0 rfl rfl 16 (by decide) fl50 (fun _ h9 => h9) rfl dX2_forward_37 ?_
  refine c_iconst hx hb dX2_forward_40 (by decide) (fun v40 i40 => ?_)
  refine lv_aload_n hx hb dX2_forward_41 rfl (lv_at hl 0 rfl) ?_
  refine va_get (D := D) (ci := 2) (v := .ref (ad 8)) (C := RX2) (T := TX2) (N := 21) hx hb hts inX2 hown hK hP 0 rfl rfl 9 (by decide) fl35 (fun _ h9 => h9) rfl dX2_forward_42 ?_
  refine c_iconst hx hb dX2_forward_45 (by decide) (fun v45 i45 => ?_)
  refine c_iald hx hb hK hP 8 0 rfl rfl (1) (by omega) (by omega) dX2_forward_46 (fun v46 e46 => ?_)
  have i46 : v46.toInt = ((f 7) (1)).toInt := by rw [e46]
  refine c_iast hx hb hK hP hD hS 13 0 rfl rfl (3) (by omega) (by omega) (WM cI ad f (upd (upd (upd (upd ah (0) v10) (1) v22) (2) v34) (3) v46) bk bo mv T Dv C th mo) rfl dX2_forward_47 (fun H locs hP hD hS => ?_)
  refine lv_aload_n hx hb dX2_forward_48 rfl (lv_at hl 0 rfl) ?_
  refine va_get (D := D) (ci := 2) (v := .ref (ad 13)) (C := RX2) (T := TX2) (N := 21) hx hb hts inX2 hown hK hP 0 rfl rfl 16 (by decide) fl50 (fun _ h9 => h9) rfl dX2_forward_49 ?_
  refine c_iconst hx hb dX2_forward_52 (by decide) (fun v52 i52 => ?_)
  refine lv_aload_n hx hb dX2_forward_53 rfl (lv_at hl 0 rfl) ?_
  refine va_get (D := D) (ci := 2) (v := .ref (ad 7)) (C := RX2) (T := TX2) (N := 21) hx hb hts inX2 hown hK hP 0 rfl rfl 8 (by decide) fl32 (fun _ h9 => h9) rfl dX2_forward_54 ?_
  refine c_iconst hx hb dX2_forward_57 (by decide) (fun v57 i57 => ?_)
  refine c_iald hx hb hK hP 7 0 rfl rfl (0) (by omega) (by omega) dX2_forward_58 (fun v58 e58 => ?_)
  have i58 : v58.toInt = ((f 6) (0)).toInt := by rw [e58]
  refine lv_aload_n hx hb dX2_forward_59 rfl (lv_at hl 0 rfl) ?_
  refine va_get (D := D) (ci := 2) (v := .ref (ad 7)) (C := RX2) (T := TX2) (N := 21) hx hb hts inX2 hown hK hP 0 rfl rfl 8 (by decide) fl32 (fun _ h9 => h9) rfl dX2_forward_60 ?_
  refine c_iconst hx hb dX2_forward_63 (by decide) (fun v63 i63 => ?_)
  refine c_iald hx hb hK hP 7 0 rfl rfl (1) (by omega) (by omega) dX2_forward_64 (fun v64 e64 => ?_)
  have i64 : v64.toInt = ((f 6) (1)).toInt := by rw [e64]
  refine c_iadd hx hb dX2_forward_65 (by omega) (fun v65 i65 => ?_)
  refine c_iast hx hb hK hP hD hS 13 0 rfl rfl (4) (by omega) (by omega) (WM cI ad f (upd (upd (upd (upd (upd ah (0) v10) (1) v22) (2) v34) (3) v46) (4) v65) bk bo mv T Dv C th mo) rfl dX2_forward_66 (fun H locs hP hD hS => ?_)
  refine lv_aload_n hx hb dX2_forward_67 rfl (lv_at hl 0 rfl) ?_
  refine va_get (D := D) (ci := 2) (v := .ref (ad 13)) (C := RX2) (T := TX2) (N := 21) hx hb hts inX2 hown hK hP 0 rfl rfl 16 (by decide) fl50 (fun _ h9 => h9) rfl dX2_forward_68 ?_
  refine c_iconst hx hb dX2_forward_71 (by decide) (fun v71 i71 => ?_)
  refine lv_aload_n hx hb dX2_forward_72 rfl (lv_at hl 0 rfl) ?_
  refine va_get (D := D) (ci := 2) (v := .ref (ad 8)) (C := RX2) (T := TX2) (N := 21) hx hb hts inX2 hown hK hP 0 rfl rfl 9 (by decide) fl35 (fun _ h9 => h9) rfl dX2_forward_73 ?_
  refine c_iconst hx hb dX2_forward_76 (by decide) (fun v76 i76 => ?_)
  refine c_iald hx hb hK hP 8 0 rfl rfl (0) (by omega) (by omega) dX2_forward_77 (fun v77 e77 => ?_)
  have i77 : v77.toInt = ((f 7) (0)).toInt := by rw [e77]
  refine lv_aload_n hx hb dX2_forward_78 rfl (lv_at hl 0 rfl) ?_
  refine va_get (D := D) (ci := 2) (v := .ref (ad 8)) (C := RX2) (T := TX2) (N := 21) hx hb hts inX2 hown hK hP 0 rfl rfl 9 (by decide) fl35 (fun _ h9 => h9) rfl dX2_forward_79 ?_
  refine c_iconst hx hb dX2_forward_82 (by decide) (fun v82 i82 => ?_)
  refine c_iald hx hb hK hP 8 0 rfl rfl (1) (by omega) (by omega) dX2_forward_83 (fun v83 e83 => ?_)
  have i83 : v83.toInt = ((f 7) (1)).toInt := by rw [e83]
  refine c_iadd hx hb dX2_forward_84 (by omega) (fun v84 i84 => ?_)
  refine c_iast hx hb hK hP hD hS 13 0 rfl rfl (5) (by omega) (by omega) (WM cI ad f (upd (upd (upd (upd (upd (upd ah (0) v10) (1) v22) (2) v34) (3) v46) (4) v65) (5) v84) bk bo mv T Dv C th mo) rfl dX2_forward_85 (fun H locs hP hD hS => ?_)
  have Uah0 := up6 (s := ah) (0) (x0 := v10) (x1 := v22) (x2 := v34) (x3 := v46) (x4 := v65) (x5 := v84) (show 0 = 0 by omega) (show 1 = 0 + 1 by omega) (show 2 = 0 + 2 by omega) (show 3 = 0 + 3 by omega) (show 4 = 0 + 4 by omega) (show 5 = 0 + 5 by omega)
  obtain ⟨ah0, eah0⟩ : ∃ z, z = (upd (upd (upd (upd (upd (upd ah (0) v10) (1) v22) (2) v34) (3) v46) (4) v65) (5) v84) := ⟨_, rfl⟩
  rw [← eah0] at hP hD Uah0
  have ah0e0 : rwM ah0 0 0 = v10.toInt := congrArg Int32.toInt Uah0.1.1
  have ah0e1 : rwM ah0 0 1 = v22.toInt := congrArg Int32.toInt Uah0.1.2.1
  have ah0e2 : rwM ah0 0 2 = v34.toInt := congrArg Int32.toInt Uah0.1.2.2.1
  have ah0e3 : rwM ah0 0 3 = v46.toInt := congrArg Int32.toInt Uah0.1.2.2.2.1
  have ah0e4 : rwM ah0 0 4 = v65.toInt := congrArg Int32.toInt Uah0.1.2.2.2.2.1
  have ah0e5 : rwM ah0 0 5 = v84.toInt := congrArg Int32.toInt Uah0.1.2.2.2.2.2
  have hst : isSt f (rwM ah0 0) := ⟨by rw [ah0e0, i10], by rw [ah0e1, i22], by rw [ah0e2, i34], by rw [ah0e3, i46], by rw [ah0e4, i65, i58, i64], by rw [ah0e5, i84, i77, i83]⟩
  have hb0 : bd (rwM ah0 0) 1500000 := by
    have w0 := hIs 0 (by omega); have w1 := hIs 1 (by omega)
    unfold isSt at hst; unfold bd; omega
  have hF0 := Fw_0 (Dn := Dn) (Cn := Cn) (mr := mo.toInt) hst
  refine lv_aload_n hx hb dX2_forward_86 rfl (lv_at hl 0 rfl) ?_
  refine lv_aload_n hx hb dX2_forward_87 rfl (lv_at hl 0 rfl) ?_
  refine va_get (D := D) (ci := 2) (v := .ref (ad 13)) (C := RX2) (T := TX2) (N := 21) hx hb hts inX2 hown hK hP 0 rfl rfl 16 (by decide) fl50 (fun _ h9 => h9) rfl dX2_forward_88 ?_
  refine c_iconst hx hb dX2_forward_91 (by decide) (fun v91 i91 => ?_)
  refine c_cvi (As := [.ref (ad 13), .int v91]) (ci := 2) (q0 := 0) (wr := [((ad 1), .inl (cI, 6, .inl (f 0))), ((ad 2), .inl (cI, 6, .inl (f 1))), ((ad 3), .inl (cI, 6, .inl (f 2))), ((ad 4), .inl (cI, 6, .inl (f 3))), ((ad 5), .inl (cI, 360, .inl (f 4))), ((ad 6), .inl (cI, 360, .inl (f 5))), ((ad 7), .inl (cI, 2, .inl (f 6))), ((ad 8), .inl (cI, 2, .inl (f 7))), ((ad 14), .inl (cI, 366, .inl bk)), ((ad 15), .inl (cI, 366, .inl bo)), ((ad 16), .inl (cI, 6, .inl mv))]) (wF := (fun uZ => (WM cI ad f uZ bk bo mv T Dv C th mo))) (kX2_holds l D cI ad (ad 13) f T Dv C th mo ah0 Tn Dn Cn v91 (0) hC hI (by omega) (by omega) hb0) ⟨hx, hb, hml, hown, hts⟩ (cwV 2 hts gX2_forward_X2_holds rfl rfl rfl (by decide +kernel) ⟨Nat.le_of_ble_eq_true rfl, Nat.le_of_ble_eq_true rfl⟩) hK hP hD hS hA [0, 9, 10, 11, 12, 13] [1, 2, 3, 4, 5, 6, 7, 8, 14, 15, 16] [11, 0, 1, 2, 3, 4, 5, 6, 7, 12, 13, 14, 15, 16, 8, 9, 10] rfl (by decide) rfl (by decide) (by decide) (by decide) (fun _ => rfl) rfl rfl rfl rfl hl.1 rfl (Nat.le_of_ble_eq_true rfl) dX2_forward_92 ⟨Nat.zero_le _, Nat.zero_le _⟩ (fun r92 u92 H locs q92 hP hD hS => ?_)
  try dsimp only at q92
  have hP : va_P D vwCl (WM cI ad f u92 bk bo mv T Dv C th mo) H := hP
  have hD : va_D A (WM cI ad f u92 bk bo mv T Dv C th mo) := hD
  refine c_if_ne (tgt := 100) hx hb dX2_forward_95 (by decide) (fun c95 => ?_) (fun c95 => ?_)
  · skip
    refine c_iconst hx hb dX2_forward_100 (by decide) (fun v100 i100 => ?_)
    refine lv_istore_n (lv' := [(1, .int v100), (0, .ref (ad 0))]) hx hb dX2_forward_101 rfl hl (by decide) rfl (fun ls hl => ?_)
    have HL102 : ∀ (n : Nat) (t : Nat) (x1 : Int32) (ah1 : Nat → Int32) (m1 : Nat → Int32) (H : Heap) (locs : List Loc) (ls : Array Slot), (x1.toInt = (t : Int)) → (t ≤ Tn) → (Tn + 1 ≤ t + n) → (∀ j, j ≤ t → Tt (rwM ah1 j) (Fw f Dn Cn mo.toInt j) ∧ bh (rwM ah1 j) (20000 + 360 * j)) → va_P D vwCl (WM cI ad f ah1 bk bo m1 T Dv C th mo) H → va_D A (WM cI ad f ah1 bk bo m1 T Dv C th mo) → va_S A s.heap H locs → lv_has ls 3 [(0, .ref (ad 0)), (1, .int x1)] → W p l e ({ frames := 4, cells := 0, slots := 0, locals := 88 } : Room) s m [.ref (ad 0)].toArray below meth c H locs 0 0 (MQ below (va_Qi (fun (r : Int32) (u : (Nat → Int32) × (Nat → Int32)) => LA f Tn Dn Cn mo.toInt r.toInt (fun j => rwM u.1 j)) (cB D [(cI, .int)] A (fun u : (Nat → Int32) × (Nat → Int32) => (WM cI ad f u.1 bk bo u.2 T Dv C th mo))) A) [.ref (ad 0)].toArray s 0 0 A) (F0 m 102 ls []) := by
      intro n
      induction n with
      | zero => intro t x1 ah1 m1 H locs ls hx1 ht hms hrows; exact absurd hms (by omega)
      | succ n ih102 =>
        intro t x1 ah1 m1 H locs ls hx1 ht hms hrows hP hD hS hl
        refine lv_iload_n hx hb dX2_forward_102 rfl (lv_at hl 1 rfl) ?_
        refine lv_aload_n hx hb dX2_forward_103 rfl (lv_at hl 0 rfl) ?_
        refine va_get (D := D) (ci := 2) (v := .int T) (C := RX2) (T := TX2) (N := 21) hx hb hts inX2 hown hK hP 0 rfl rfl 0 (by decide) fl7 (fun _ h9 => h9) rfl dX2_forward_104 ?_
        refine c_icmp_ge (tgt := 329) hx hb dX2_forward_107 (by decide) (fun c107 => ?_) (fun c107 => ?_)
        · skip
          refine c_iconst hx hb dX2_forward_329 (by decide) (fun v329 i329 => ?_)
          exact c_ri (ah1, m1) hx hb hr hlocks hK hP hD hS dX2_forward_330 (Or.inl ⟨i329, fun j hj => by
                  obtain ⟨w1, w2⟩ := hrows j (by omega)
                  exact ⟨w1, bh_le w2 (by omega)⟩⟩)
        · skip
          refine lv_aload_n hx hb dX2_forward_110 rfl (lv_at hl 0 rfl) ?_
          refine lv_iload_n hx hb dX2_forward_111 rfl (lv_at hl 1 rfl) ?_
          refine c_iconst hx hb dX2_forward_112 (by decide) (fun v112 i112 => ?_)
          refine c_wvv (As := [.int x1, .int v112]) (ci := 2) (q0 := 0) (kX2_moves l D cI ad f ah1 bk bo m1 T Dv C th mo Tn Dn Cn x1 v112 (t) hT hDv hC hI (by omega) (by omega) hmo) ⟨hx, hb, hml, hown, hts⟩ (cwV 2 hts gX2_forward_X2_moves rfl rfl rfl (by decide +kernel) ⟨Nat.le_of_ble_eq_true rfl, Nat.le_of_ble_eq_true rfl⟩) hK hP hD hS hA rfl rfl rfl rfl hl.1 rfl (Nat.le_of_ble_eq_true rfl) dX2_forward_113 ⟨Nat.zero_le _, Nat.zero_le _⟩ (fun u113 H locs q113 hP hD hS => ?_)
          try dsimp only at q113
          have hP : va_P D vwCl (WM cI ad f ah1 bk bo u113 T Dv C th mo) H := hP
          have hD : va_D A (WM cI ad f ah1 bk bo u113 T Dv C th mo) := hD
          rw [i112] at q113
          have hmb := (mvs_bd (but := -1) hI (show t < Tn by omega) hmo.1 hmo.2 Dn (Nat.le_refl _)).2
          have M0 := q113 0 (by omega)
          have N0 := hmb 0 (by omega)
          have M1 := q113 1 (by omega)
          have N1 := hmb 1 (by omega)
          have M2 := q113 2 (by omega)
          have N2 := hmb 2 (by omega)
          have M3 := q113 3 (by omega)
          have N3 := hmb 3 (by omega)
          have M4 := q113 4 (by omega)
          have N4 := hmb 4 (by omega)
          have M5 := q113 5 (by omega)
          have N5 := hmb 5 (by omega)
          obtain ⟨hTt, hbt⟩ := hrows t (Nat.le_refl t)
          obtain ⟨z0, z1, z2, z3, z4, z5⟩ := id hbt
          have w0 : (ah1 (6 * t)).toInt = rwM ah1 t 0 := rfl
          have w1 : (ah1 (6 * t + 1)).toInt = rwM ah1 t 1 := rfl
          have w2 : (ah1 (6 * t + 2)).toInt = rwM ah1 t 2 := rfl
          have w3 : (ah1 (6 * t + 3)).toInt = rwM ah1 t 3 := rfl
          have w4 : (ah1 (6 * t + 4)).toInt = rwM ah1 t 4 := rfl
          have w5 : (ah1 (6 * t + 5)).toInt = rwM ah1 t 5 := rfl
          refine c_bipush hx hb dX2_forward_116 (by decide) (fun v116 i116 => ?_)
          refine lv_iload_n hx hb dX2_forward_118 rfl (lv_at hl 1 rfl) ?_
          refine c_imul (a := 6) (b := x1.toInt) hx hb dX2_forward_119 (by omega) rfl (by omega) (fun v119 i119 => ?_)
          refine lv_istore_n (lv' := [(2, .int v119), (0, .ref (ad 0)), (1, .int x1)]) hx hb dX2_forward_120 rfl hl (by decide) rfl (fun ls hl => ?_)
          refine lv_aload_n hx hb dX2_forward_121 rfl (lv_at hl 1 rfl) ?_
          refine va_get (D := D) (ci := 2) (v := .ref (ad 13)) (C := RX2) (T := TX2) (N := 21) hx hb hts inX2 hown hK hP 0 rfl rfl 16 (by decide) fl50 (fun _ h9 => h9) rfl dX2_forward_122 ?_
          refine lv_iload_n hx hb dX2_forward_125 rfl (lv_at hl 0 rfl) ?_
          refine c_bipush hx hb dX2_forward_126 (by decide) (fun v126 i126 => ?_)
          refine c_iadd hx hb dX2_forward_128 (by omega) (fun v128 i128 => ?_)
          refine lv_aload_n hx hb dX2_forward_129 rfl (lv_at hl 1 rfl) ?_
          refine va_get (D := D) (ci := 2) (v := .ref (ad 13)) (C := RX2) (T := TX2) (N := 21) hx hb hts inX2 hown hK hP 0 rfl rfl 16 (by decide) fl50 (fun _ h9 => h9) rfl dX2_forward_130 ?_
          refine lv_iload_n hx hb dX2_forward_133 rfl (lv_at hl 0 rfl) ?_
          refine c_iald hx hb hK hP 13 0 rfl rfl (6 * t) (by omega) (by omega) dX2_forward_134 (fun v134 e134 => ?_)
          have i134 : v134.toInt = (ah1 (6 * t)).toInt := by rw [e134]
          refine lv_aload_n hx hb dX2_forward_135 rfl (lv_at hl 1 rfl) ?_
          refine va_get (D := D) (ci := 2) (v := .ref (ad 16)) (C := RX2) (T := TX2) (N := 21) hx hb hts inX2 hown hK hP 0 rfl rfl 19 (by decide) fl59 (fun _ h9 => h9) rfl dX2_forward_136 ?_
          refine c_iconst hx hb dX2_forward_139 (by decide) (fun v139 i139 => ?_)
          refine c_iald hx hb hK hP 16 0 rfl rfl (0) (by omega) (by omega) dX2_forward_140 (fun v140 e140 => ?_)
          have i140 : v140.toInt = (u113 (0)).toInt := by rw [e140]
          refine c_iadd hx hb dX2_forward_141 (by omega) (fun v141 i141 => ?_)
          refine lv_aload_n hx hb dX2_forward_142 rfl (lv_at hl 1 rfl) ?_
          refine va_get (D := D) (ci := 2) (v := .ref (ad 16)) (C := RX2) (T := TX2) (N := 21) hx hb hts inX2 hown hK hP 0 rfl rfl 19 (by decide) fl59 (fun _ h9 => h9) rfl dX2_forward_143 ?_
          refine c_iconst hx hb dX2_forward_146 (by decide) (fun v146 i146 => ?_)
          refine c_iald hx hb hK hP 16 0 rfl rfl (5) (by omega) (by omega) dX2_forward_147 (fun v147 e147 => ?_)
          have i147 : v147.toInt = (u113 (5)).toInt := by rw [e147]
          refine c_isub hx hb dX2_forward_148 (by omega) (fun v148 i148 => ?_)
          refine c_iast hx hb hK hP hD hS 13 0 rfl rfl (6 * t + 6) (by omega) (by omega) (WM cI ad f (upd ah1 (6 * t + 6) v148) bk bo u113 T Dv C th mo) rfl dX2_forward_149 (fun H locs hP hD hS => ?_)
          refine lv_aload_n hx hb dX2_forward_150 rfl (lv_at hl 1 rfl) ?_
          refine va_get (D := D) (ci := 2) (v := .ref (ad 13)) (C := RX2) (T := TX2) (N := 21) hx hb hts inX2 hown hK hP 0 rfl rfl 16 (by decide) fl50 (fun _ h9 => h9) rfl dX2_forward_151 ?_
          refine lv_iload_n hx hb dX2_forward_154 rfl (lv_at hl 0 rfl) ?_
          refine c_bipush hx hb dX2_forward_155 (by decide) (fun v155 i155 => ?_)
          refine c_iadd hx hb dX2_forward_157 (by omega) (fun v157 i157 => ?_)
          refine lv_aload_n hx hb dX2_forward_158 rfl (lv_at hl 1 rfl) ?_
          refine va_get (D := D) (ci := 2) (v := .ref (ad 13)) (C := RX2) (T := TX2) (N := 21) hx hb hts inX2 hown hK hP 0 rfl rfl 16 (by decide) fl50 (fun _ h9 => h9) rfl dX2_forward_159 ?_
          refine lv_iload_n hx hb dX2_forward_162 rfl (lv_at hl 0 rfl) ?_
          refine c_iconst hx hb dX2_forward_163 (by decide) (fun v163 i163 => ?_)
          refine c_iadd hx hb dX2_forward_164 (by omega) (fun v164 i164 => ?_)
          refine c_iald hx hb hK hP 13 0 rfl rfl (6 * t + 1) (by omega) (by omega) dX2_forward_165 (fun v165 e165 => ?_)
          rw [pk_un (by omega)] at e165
          have i165 : v165.toInt = (ah1 (6 * t + 1)).toInt := by rw [e165]
          refine lv_aload_n hx hb dX2_forward_166 rfl (lv_at hl 1 rfl) ?_
          refine va_get (D := D) (ci := 2) (v := .ref (ad 16)) (C := RX2) (T := TX2) (N := 21) hx hb hts inX2 hown hK hP 0 rfl rfl 19 (by decide) fl59 (fun _ h9 => h9) rfl dX2_forward_167 ?_
          refine c_iconst hx hb dX2_forward_170 (by decide) (fun v170 i170 => ?_)
          refine c_iald hx hb hK hP 16 0 rfl rfl (1) (by omega) (by omega) dX2_forward_171 (fun v171 e171 => ?_)
          have i171 : v171.toInt = (u113 (1)).toInt := by rw [e171]
          refine c_iadd hx hb dX2_forward_172 (by omega) (fun v172 i172 => ?_)
          refine lv_aload_n hx hb dX2_forward_173 rfl (lv_at hl 1 rfl) ?_
          refine va_get (D := D) (ci := 2) (v := .ref (ad 16)) (C := RX2) (T := TX2) (N := 21) hx hb hts inX2 hown hK hP 0 rfl rfl 19 (by decide) fl59 (fun _ h9 => h9) rfl dX2_forward_174 ?_
          refine c_iconst hx hb dX2_forward_177 (by decide) (fun v177 i177 => ?_)
          refine c_iald hx hb hK hP 16 0 rfl rfl (4) (by omega) (by omega) dX2_forward_178 (fun v178 e178 => ?_)
          have i178 : v178.toInt = (u113 (4)).toInt := by rw [e178]
          refine c_isub hx hb dX2_forward_179 (by omega) (fun v179 i179 => ?_)
          refine c_iast hx hb hK hP hD hS 13 0 rfl rfl (6 * t + 7) (by omega) (by omega) (WM cI ad f (upd (upd ah1 (6 * t + 6) v148) (6 * t + 7) v179) bk bo u113 T Dv C th mo) rfl dX2_forward_180 (fun H locs hP hD hS => ?_)
          refine lv_aload_n hx hb dX2_forward_181 rfl (lv_at hl 1 rfl) ?_
          refine va_get (D := D) (ci := 2) (v := .ref (ad 13)) (C := RX2) (T := TX2) (N := 21) hx hb hts inX2 hown hK hP 0 rfl rfl 16 (by decide) fl50 (fun _ h9 => h9) rfl dX2_forward_182 ?_
          refine lv_iload_n hx hb dX2_forward_185 rfl (lv_at hl 0 rfl) ?_
          refine c_bipush hx hb dX2_forward_186 (by decide) (fun v186 i186 => ?_)
          refine c_iadd hx hb dX2_forward_188 (by omega) (fun v188 i188 => ?_)
          refine lv_aload_n hx hb dX2_forward_189 rfl (lv_at hl 1 rfl) ?_
          refine va_get (D := D) (ci := 2) (v := .ref (ad 13)) (C := RX2) (T := TX2) (N := 21) hx hb hts inX2 hown hK hP 0 rfl rfl 16 (by decide) fl50 (fun _ h9 => h9) rfl dX2_forward_190 ?_
          refine lv_iload_n hx hb dX2_forward_193 rfl (lv_at hl 0 rfl) ?_
          refine c_iconst hx hb dX2_forward_194 (by decide) (fun v194 i194 => ?_)
          refine c_iadd hx hb dX2_forward_195 (by omega) (fun v195 i195 => ?_)
          refine c_iald hx hb hK hP 13 0 rfl rfl (6 * t + 2) (by omega) (by omega) dX2_forward_196 (fun v196 e196 => ?_)
          rw [pk_un (by omega), pk_un (by omega)] at e196
          have i196 : v196.toInt = (ah1 (6 * t + 2)).toInt := by rw [e196]
          refine lv_aload_n hx hb dX2_forward_197 rfl (lv_at hl 1 rfl) ?_
          refine va_get (D := D) (ci := 2) (v := .ref (ad 16)) (C := RX2) (T := TX2) (N := 21) hx hb hts inX2 hown hK hP 0 rfl rfl 19 (by decide) fl59 (fun _ h9 => h9) rfl dX2_forward_198 ?_
          refine c_iconst hx hb dX2_forward_201 (by decide) (fun v201 i201 => ?_)
          refine c_iald hx hb hK hP 16 0 rfl rfl (2) (by omega) (by omega) dX2_forward_202 (fun v202 e202 => ?_)
          have i202 : v202.toInt = (u113 (2)).toInt := by rw [e202]
          refine c_iadd hx hb dX2_forward_203 (by omega) (fun v203 i203 => ?_)
          refine lv_aload_n hx hb dX2_forward_204 rfl (lv_at hl 1 rfl) ?_
          refine va_get (D := D) (ci := 2) (v := .ref (ad 16)) (C := RX2) (T := TX2) (N := 21) hx hb hts inX2 hown hK hP 0 rfl rfl 19 (by decide) fl59 (fun _ h9 => h9) rfl dX2_forward_205 ?_
          refine c_iconst hx hb dX2_forward_208 (by decide) (fun v208 i208 => ?_)
          refine c_iald hx hb hK hP 16 0 rfl rfl (4) (by omega) (by omega) dX2_forward_209 (fun v209 e209 => ?_)
          have i209 : v209.toInt = (u113 (4)).toInt := by rw [e209]
          refine c_iadd hx hb dX2_forward_210 (by omega) (fun v210 i210 => ?_)
          refine c_iast hx hb hK hP hD hS 13 0 rfl rfl (6 * t + 8) (by omega) (by omega) (WM cI ad f (upd (upd (upd ah1 (6 * t + 6) v148) (6 * t + 7) v179) (6 * t + 8) v210) bk bo u113 T Dv C th mo) rfl dX2_forward_211 (fun H locs hP hD hS => ?_)
          refine lv_aload_n hx hb dX2_forward_212 rfl (lv_at hl 1 rfl) ?_
          refine va_get (D := D) (ci := 2) (v := .ref (ad 13)) (C := RX2) (T := TX2) (N := 21) hx hb hts inX2 hown hK hP 0 rfl rfl 16 (by decide) fl50 (fun _ h9 => h9) rfl dX2_forward_213 ?_
          refine lv_iload_n hx hb dX2_forward_216 rfl (lv_at hl 0 rfl) ?_
          refine c_bipush hx hb dX2_forward_217 (by decide) (fun v217 i217 => ?_)
          refine c_iadd hx hb dX2_forward_219 (by omega) (fun v219 i219 => ?_)
          refine lv_aload_n hx hb dX2_forward_220 rfl (lv_at hl 1 rfl) ?_
          refine va_get (D := D) (ci := 2) (v := .ref (ad 13)) (C := RX2) (T := TX2) (N := 21) hx hb hts inX2 hown hK hP 0 rfl rfl 16 (by decide) fl50 (fun _ h9 => h9) rfl dX2_forward_221 ?_
          refine lv_iload_n hx hb dX2_forward_224 rfl (lv_at hl 0 rfl) ?_
          refine c_iconst hx hb dX2_forward_225 (by decide) (fun v225 i225 => ?_)
          refine c_iadd hx hb dX2_forward_226 (by omega) (fun v226 i226 => ?_)
          refine c_iald hx hb hK hP 13 0 rfl rfl (6 * t + 3) (by omega) (by omega) dX2_forward_227 (fun v227 e227 => ?_)
          rw [pk_un (by omega), pk_un (by omega), pk_un (by omega)] at e227
          have i227 : v227.toInt = (ah1 (6 * t + 3)).toInt := by rw [e227]
          refine lv_aload_n hx hb dX2_forward_228 rfl (lv_at hl 1 rfl) ?_
          refine va_get (D := D) (ci := 2) (v := .ref (ad 16)) (C := RX2) (T := TX2) (N := 21) hx hb hts inX2 hown hK hP 0 rfl rfl 19 (by decide) fl59 (fun _ h9 => h9) rfl dX2_forward_229 ?_
          refine c_iconst hx hb dX2_forward_232 (by decide) (fun v232 i232 => ?_)
          refine c_iald hx hb hK hP 16 0 rfl rfl (3) (by omega) (by omega) dX2_forward_233 (fun v233 e233 => ?_)
          have i233 : v233.toInt = (u113 (3)).toInt := by rw [e233]
          refine c_iadd hx hb dX2_forward_234 (by omega) (fun v234 i234 => ?_)
          refine lv_aload_n hx hb dX2_forward_235 rfl (lv_at hl 1 rfl) ?_
          refine va_get (D := D) (ci := 2) (v := .ref (ad 16)) (C := RX2) (T := TX2) (N := 21) hx hb hts inX2 hown hK hP 0 rfl rfl 19 (by decide) fl59 (fun _ h9 => h9) rfl dX2_forward_236 ?_
          refine c_iconst hx hb dX2_forward_239 (by decide) (fun v239 i239 => ?_)
          refine c_iald hx hb hK hP 16 0 rfl rfl (5) (by omega) (by omega) dX2_forward_240 (fun v240 e240 => ?_)
          have i240 : v240.toInt = (u113 (5)).toInt := by rw [e240]
          refine c_iadd hx hb dX2_forward_241 (by omega) (fun v241 i241 => ?_)
          refine c_iast hx hb hK hP hD hS 13 0 rfl rfl (6 * t + 9) (by omega) (by omega) (WM cI ad f (upd (upd (upd (upd ah1 (6 * t + 6) v148) (6 * t + 7) v179) (6 * t + 8) v210) (6 * t + 9) v241) bk bo u113 T Dv C th mo) rfl dX2_forward_242 (fun H locs hP hD hS => ?_)
          refine lv_aload_n hx hb dX2_forward_243 rfl (lv_at hl 1 rfl) ?_
          refine va_get (D := D) (ci := 2) (v := .ref (ad 13)) (C := RX2) (T := TX2) (N := 21) hx hb hts inX2 hown hK hP 0 rfl rfl 16 (by decide) fl50 (fun _ h9 => h9) rfl dX2_forward_244 ?_
          refine lv_iload_n hx hb dX2_forward_247 rfl (lv_at hl 0 rfl) ?_
          refine c_bipush hx hb dX2_forward_248 (by decide) (fun v248 i248 => ?_)
          refine c_iadd hx hb dX2_forward_250 (by omega) (fun v250 i250 => ?_)
          refine lv_aload_n hx hb dX2_forward_251 rfl (lv_at hl 1 rfl) ?_
          refine va_get (D := D) (ci := 2) (v := .ref (ad 13)) (C := RX2) (T := TX2) (N := 21) hx hb hts inX2 hown hK hP 0 rfl rfl 16 (by decide) fl50 (fun _ h9 => h9) rfl dX2_forward_252 ?_
          refine lv_iload_n hx hb dX2_forward_255 rfl (lv_at hl 0 rfl) ?_
          refine c_iconst hx hb dX2_forward_256 (by decide) (fun v256 i256 => ?_)
          refine c_iadd hx hb dX2_forward_257 (by omega) (fun v257 i257 => ?_)
          refine c_iald hx hb hK hP 13 0 rfl rfl (6 * t + 4) (by omega) (by omega) dX2_forward_258 (fun v258 e258 => ?_)
          rw [pk_un (by omega), pk_un (by omega), pk_un (by omega), pk_un (by omega)] at e258
          have i258 : v258.toInt = (ah1 (6 * t + 4)).toInt := by rw [e258]
          refine lv_aload_n hx hb dX2_forward_259 rfl (lv_at hl 1 rfl) ?_
          refine va_get (D := D) (ci := 2) (v := .ref (ad 16)) (C := RX2) (T := TX2) (N := 21) hx hb hts inX2 hown hK hP 0 rfl rfl 19 (by decide) fl59 (fun _ h9 => h9) rfl dX2_forward_260 ?_
          refine c_iconst hx hb dX2_forward_263 (by decide) (fun v263 i263 => ?_)
          refine c_iald hx hb hK hP 16 0 rfl rfl (0) (by omega) (by omega) dX2_forward_264 (fun v264 e264 => ?_)
          have i264 : v264.toInt = (u113 (0)).toInt := by rw [e264]
          refine c_iadd hx hb dX2_forward_265 (by omega) (fun v265 i265 => ?_)
          refine lv_aload_n hx hb dX2_forward_266 rfl (lv_at hl 1 rfl) ?_
          refine va_get (D := D) (ci := 2) (v := .ref (ad 16)) (C := RX2) (T := TX2) (N := 21) hx hb hts inX2 hown hK hP 0 rfl rfl 19 (by decide) fl59 (fun _ h9 => h9) rfl dX2_forward_267 ?_
          refine c_iconst hx hb dX2_forward_270 (by decide) (fun v270 i270 => ?_)
          refine c_iald hx hb hK hP 16 0 rfl rfl (2) (by omega) (by omega) dX2_forward_271 (fun v271 e271 => ?_)
          have i271 : v271.toInt = (u113 (2)).toInt := by rw [e271]
          refine c_iadd hx hb dX2_forward_272 (by omega) (fun v272 i272 => ?_)
          refine c_iast hx hb hK hP hD hS 13 0 rfl rfl (6 * t + 10) (by omega) (by omega) (WM cI ad f (upd (upd (upd (upd (upd ah1 (6 * t + 6) v148) (6 * t + 7) v179) (6 * t + 8) v210) (6 * t + 9) v241) (6 * t + 10) v272) bk bo u113 T Dv C th mo) rfl dX2_forward_273 (fun H locs hP hD hS => ?_)
          refine lv_aload_n hx hb dX2_forward_274 rfl (lv_at hl 1 rfl) ?_
          refine va_get (D := D) (ci := 2) (v := .ref (ad 13)) (C := RX2) (T := TX2) (N := 21) hx hb hts inX2 hown hK hP 0 rfl rfl 16 (by decide) fl50 (fun _ h9 => h9) rfl dX2_forward_275 ?_
          refine lv_iload_n hx hb dX2_forward_278 rfl (lv_at hl 0 rfl) ?_
          refine c_bipush hx hb dX2_forward_279 (by decide) (fun v279 i279 => ?_)
          refine c_iadd hx hb dX2_forward_281 (by omega) (fun v281 i281 => ?_)
          refine lv_aload_n hx hb dX2_forward_282 rfl (lv_at hl 1 rfl) ?_
          refine va_get (D := D) (ci := 2) (v := .ref (ad 13)) (C := RX2) (T := TX2) (N := 21) hx hb hts inX2 hown hK hP 0 rfl rfl 16 (by decide) fl50 (fun _ h9 => h9) rfl dX2_forward_283 ?_
          refine lv_iload_n hx hb dX2_forward_286 rfl (lv_at hl 0 rfl) ?_
          refine c_iconst hx hb dX2_forward_287 (by decide) (fun v287 i287 => ?_)
          refine c_iadd hx hb dX2_forward_288 (by omega) (fun v288 i288 => ?_)
          refine c_iald hx hb hK hP 13 0 rfl rfl (6 * t + 5) (by omega) (by omega) dX2_forward_289 (fun v289 e289 => ?_)
          rw [pk_un (by omega), pk_un (by omega), pk_un (by omega), pk_un (by omega), pk_un (by omega)] at e289
          have i289 : v289.toInt = (ah1 (6 * t + 5)).toInt := by rw [e289]
          refine lv_aload_n hx hb dX2_forward_290 rfl (lv_at hl 1 rfl) ?_
          refine va_get (D := D) (ci := 2) (v := .ref (ad 16)) (C := RX2) (T := TX2) (N := 21) hx hb hts inX2 hown hK hP 0 rfl rfl 19 (by decide) fl59 (fun _ h9 => h9) rfl dX2_forward_291 ?_
          refine c_iconst hx hb dX2_forward_294 (by decide) (fun v294 i294 => ?_)
          refine c_iald hx hb hK hP 16 0 rfl rfl (1) (by omega) (by omega) dX2_forward_295 (fun v295 e295 => ?_)
          have i295 : v295.toInt = (u113 (1)).toInt := by rw [e295]
          refine c_iadd hx hb dX2_forward_296 (by omega) (fun v296 i296 => ?_)
          refine lv_aload_n hx hb dX2_forward_297 rfl (lv_at hl 1 rfl) ?_
          refine va_get (D := D) (ci := 2) (v := .ref (ad 16)) (C := RX2) (T := TX2) (N := 21) hx hb hts inX2 hown hK hP 0 rfl rfl 19 (by decide) fl59 (fun _ h9 => h9) rfl dX2_forward_298 ?_
          refine c_iconst hx hb dX2_forward_301 (by decide) (fun v301 i301 => ?_)
          refine c_iald hx hb hK hP 16 0 rfl rfl (3) (by omega) (by omega) dX2_forward_302 (fun v302 e302 => ?_)
          have i302 : v302.toInt = (u113 (3)).toInt := by rw [e302]
          refine c_iadd hx hb dX2_forward_303 (by omega) (fun v303 i303 => ?_)
          refine c_iast hx hb hK hP hD hS 13 0 rfl rfl (6 * t + 11) (by omega) (by omega) (WM cI ad f (upd (upd (upd (upd (upd (upd ah1 (6 * t + 6) v148) (6 * t + 7) v179) (6 * t + 8) v210) (6 * t + 9) v241) (6 * t + 10) v272) (6 * t + 11) v303) bk bo u113 T Dv C th mo) rfl dX2_forward_304 (fun H locs hP hD hS => ?_)
          have Uah2 := up6 (s := ah1) (6 * (t + 1)) (x0 := v148) (x1 := v179) (x2 := v210) (x3 := v241) (x4 := v272) (x5 := v303) (show 6 * t + 6 = 6 * (t + 1) by omega) (show 6 * t + 7 = 6 * (t + 1) + 1 by omega) (show 6 * t + 8 = 6 * (t + 1) + 2 by omega) (show 6 * t + 9 = 6 * (t + 1) + 3 by omega) (show 6 * t + 10 = 6 * (t + 1) + 4 by omega) (show 6 * t + 11 = 6 * (t + 1) + 5 by omega)
          obtain ⟨ah2, eah2⟩ : ∃ z, z = (upd (upd (upd (upd (upd (upd ah1 (6 * t + 6) v148) (6 * t + 7) v179) (6 * t + 8) v210) (6 * t + 9) v241) (6 * t + 10) v272) (6 * t + 11) v303) := ⟨_, rfl⟩
          rw [← eah2] at hP hD Uah2
          have ah2e0 : rwM ah2 (t + 1) 0 = v148.toInt := congrArg Int32.toInt Uah2.1.1
          have ah2e1 : rwM ah2 (t + 1) 1 = v179.toInt := congrArg Int32.toInt Uah2.1.2.1
          have ah2e2 : rwM ah2 (t + 1) 2 = v210.toInt := congrArg Int32.toInt Uah2.1.2.2.1
          have ah2e3 : rwM ah2 (t + 1) 3 = v241.toInt := congrArg Int32.toInt Uah2.1.2.2.2.1
          have ah2e4 : rwM ah2 (t + 1) 4 = v272.toInt := congrArg Int32.toInt Uah2.1.2.2.2.2.1
          have ah2e5 : rwM ah2 (t + 1) 5 = v303.toInt := congrArg Int32.toInt Uah2.1.2.2.2.2.2
          have ce := crow_e (mvs f t mo.toInt (-1) Dn)
          have hz : sm6 (rwM ah2 (t + 1)) (rwM ah1 t) (crow (mvs f t mo.toInt (-1) Dn)) := by
            unfold sm6
            rw [ah2e0, ah2e1, ah2e2, ah2e3, ah2e4, ah2e5]
            omega
          have hcb := crow_bd (mr := mo.toInt) (but := -1) hI (show t < Tn by omega) hmo.1 hmo.2 Dn (Nat.le_refl _)
          have hbz : bd (rwM ah2 (t + 1)) 1500000 := by
            have w9 := hcb.2
            unfold sm6 at hz; unfold bd at *; omega
          have hstep := Fw_1 hI (show t < Tn by omega) hmo.1 hmo.2 hTt ⟨rfl, rfl, rfl, rfl, rfl, rfl⟩ hz
          refine lv_aload_n hx hb dX2_forward_305 rfl (lv_at hl 1 rfl) ?_
          refine lv_aload_n hx hb dX2_forward_306 rfl (lv_at hl 1 rfl) ?_
          refine va_get (D := D) (ci := 2) (v := .ref (ad 13)) (C := RX2) (T := TX2) (N := 21) hx hb hts inX2 hown hK hP 0 rfl rfl 16 (by decide) fl50 (fun _ h9 => h9) rfl dX2_forward_307 ?_
          refine lv_iload_n hx hb dX2_forward_310 rfl (lv_at hl 2 rfl) ?_
          refine c_iconst hx hb dX2_forward_311 (by decide) (fun v311 i311 => ?_)
          refine c_iadd hx hb dX2_forward_312 (by omega) (fun v312 i312 => ?_)
          refine c_cvi (As := [.ref (ad 13), .int v312]) (ci := 2) (q0 := 0) (wr := [((ad 1), .inl (cI, 6, .inl (f 0))), ((ad 2), .inl (cI, 6, .inl (f 1))), ((ad 3), .inl (cI, 6, .inl (f 2))), ((ad 4), .inl (cI, 6, .inl (f 3))), ((ad 5), .inl (cI, 360, .inl (f 4))), ((ad 6), .inl (cI, 360, .inl (f 5))), ((ad 7), .inl (cI, 2, .inl (f 6))), ((ad 8), .inl (cI, 2, .inl (f 7))), ((ad 14), .inl (cI, 366, .inl bk)), ((ad 15), .inl (cI, 366, .inl bo)), ((ad 16), .inl (cI, 6, .inl u113))]) (wF := (fun uZ => (WM cI ad f uZ bk bo u113 T Dv C th mo))) (kX2_holds l D cI ad (ad 13) f T Dv C th mo ah2 Tn Dn Cn v312 (t + 1) hC hI (by omega) (by omega) hbz) ⟨hx, hb, hml, hown, hts⟩ (cwV 2 hts gX2_forward_X2_holds rfl rfl rfl (by decide +kernel) ⟨Nat.le_of_ble_eq_true rfl, Nat.le_of_ble_eq_true rfl⟩) hK hP hD hS hA [0, 9, 10, 11, 12, 13] [1, 2, 3, 4, 5, 6, 7, 8, 14, 15, 16] [11, 0, 1, 2, 3, 4, 5, 6, 7, 12, 13, 14, 15, 16, 8, 9, 10] rfl (by decide) rfl (by decide) (by decide) (by decide) (fun _ => rfl) rfl rfl rfl rfl hl.1 rfl (Nat.le_of_ble_eq_true rfl) dX2_forward_313 ⟨Nat.zero_le _, Nat.zero_le _⟩ (fun r313 u313 H locs q313 hP hD hS => ?_)
          try dsimp only at q313
          have hP : va_P D vwCl (WM cI ad f u313 bk bo u113 T Dv C th mo) H := hP
          have hD : va_D A (WM cI ad f u313 bk bo u113 T Dv C th mo) := hD
          refine c_if_ne (tgt := 323) hx hb dX2_forward_316 (by decide) (fun c316 => ?_) (fun c316 => ?_)
          · skip
            refine c_iinc (k := 2) hx hb (fun v323 => [(1, .int v323), (2, .int v119), (0, .ref (ad 0))]) dX2_forward_323 hl rfl (by decide) (by omega) (by decide) (fun _ => rfl) (fun v323 ls i323 hl => ?_)
            have hl : lv_has ls 3 [(1, .int v323), (2, .int v119), (0, .ref (ad 0))] := hl
            refine lv_goto (tgt := 102) hx hb dX2_forward_326 (by decide) ?_
            exact ih102 (t + 1) v323 u313 u113 _ _ _ (by omega) (by omega) (by omega) (fun j hj => by
                    rcases (show j ≤ t ∨ j = t + 1 by omega) with h | rfl
                    · have ek : eq6 (rwM u313 j) (rwM ah1 j) := rwM_keep (fun i h1 h2 => (q313.2 i (by omega)).trans (Uah2.2 i (by omega)))
                      obtain ⟨w1, w2⟩ := hrows j h
                      exact ⟨w1.cg ek, bh_cg ek w2⟩
                    · rcases q313.1 with ⟨-, z⟩ | ⟨z, -⟩
                      · have hT := z.congr hstep
                        exact ⟨hT, bh_le (bh_up hbt hcb.2 hz hT (fun a b h => ⟨((hstep a b).mpr h).1, alw_0 _ (Fw_alw h)⟩)) (by omega)⟩
                      · omega) hP hD hS (lv_sub hl [2, 0] rfl)
          · skip
            refine lv_iload_n hx hb dX2_forward_319 rfl (lv_at hl 2 rfl) ?_
            refine c_iconst hx hb dX2_forward_320 (by decide) (fun v320 i320 => ?_)
            refine c_iadd hx hb dX2_forward_321 (by omega) (fun v321 i321 => ?_)
            exact c_ri (u313, u113) hx hb hr hlocks hK hP hD hS dX2_forward_322 (Or.inr ⟨t + 1, by omega, by omega, fun a b h => by
                      rcases q313.1 with ⟨z, -⟩ | ⟨-, z⟩
                      · omega
                      · exact z a b ((hstep a b).mpr h), fun j hj => (hrows j (by omega)).1.some⟩)
    exact HL102 (Tn + 1) 0 v100 u92 mv _ _ _ (by omega) (by omega) (by omega) (fun j hj => by
          have ej : j = 0 := by omega
          subst ej
          rcases q92.1 with ⟨-, z⟩ | ⟨z, -⟩
          · have hT := z.congr hF0
            exact ⟨hT, Tt_bh (r := rwM ah0 0) hT (fun a b h => ⟨((hF0 a b).mpr h).1, alw_0 _ (Fw_alw h)⟩) (by have w0 := hIs 0 (by omega); have w1 := hIs 1 (by omega); unfold isSt at hst; omega)⟩
          · omega) hP hD hS (lv_sub hl [1, 0] rfl)
  · skip
    refine c_iconst hx hb dX2_forward_98 (by decide) (fun v98 i98 => ?_)
    exact c_ri (u92, mv) hx hb hr hlocks hK hP hD hS dX2_forward_99 (Or.inr ⟨0, by omega, by omega, fun a b h => by
            rcases q92.1 with ⟨z, -⟩ | ⟨-, z⟩
            · omega
            · exact z a b ((hF0 a b).mpr h), fun j hj => absurd hj (by omega)⟩)
set_option maxHeartbeats 4000000 in
set_option maxRecDepth 100000 in
theorem kX2_backward (l : Launch) (D : va_G) (cI : ClassId) (ad : Nat → Nat) (f : Nat → Nat → Int32) (ah : Nat → Int32) (bk : Nat → Int32) (bo : Nat → Int32) (mv : Nat → Int32) (T : Int32) (Dv : Int32) (C : Int32) (th : Int32) (mo : Int32) (Tn : Nat) (Dn : Nat) (Cn : Nat) (hT : T.toInt = (Tn : Int)) (hDv : Dv.toInt = (Dn : Int)) (hC : C.toInt = (Cn : Int)) (hI : Inv f Tn Dn Cn) (hmo0 : mo.toInt = 0) (hF : ∃ a b, Fw f Dn Cn 0 Tn a b) (hFb : ∀ a b, Fw f Dn Cn 0 Tn a b → a + b ≤ 1000000) : MV l yX2_backward wsX2_backward ({ frames := 4, cells := 0, slots := 0, locals := 88 } : Room) D [(cI, .int)] [.ref (ad 0)] (WM cI ad f ah bk bo mv T Dv C th mo) (fun u : (Nat → Int32) × (Nat → Int32) => (WM cI ad f ah u.1 bo u.2 T Dv C th mo)) (fun (u : (Nat → Int32) × (Nat → Int32)) => ∀ j, j ≤ Tn → Tt (rwM u.1 j) (Bkv f Tn Dn Cn (Tn - j)) ∧ bh (rwM u.1 j) 1100000) := by
  refine c_ent (cc := cX2_backward) (maxL := 5) (ret := none) (Qc := fun A => va_Qv (fun (u : (Nat → Int32) × (Nat → Int32)) => ∀ j, j ≤ Tn → Tt (rwM u.1 j) (Bkv f Tn Dn Cn (Tn - j)) ∧ bh (rwM u.1 j) 1100000) (cB D [(cI, .int)] A (fun u : (Nat → Int32) × (Nat → Int32) => (WM cI ad f ah u.1 bo u.2 T Dv C th mo))) A) (by decide) rfl (Nat.le_of_ble_eq_true rfl) ?_
  intro p e s m below meth c A ls hx hb hr hlocks hts hown hml hK hP hD hA hl
  have hS : va_S A s.heap s.heap [] := va_S.rf
  have hl : lv_has ls 5 [(0, .ref (ad 0))] := hl
  have hP : va_P D vwCl (WM cI ad f ah bk bo mv T Dv C th mo) s.heap := hP
  have fl7 := hts (.fieldLink RX2 7 "DoorBenchModel" "ticks" "I") (by decide +kernel)
  have fl53 := hts (.fieldLink RX2 53 "DoorBenchModel" "back" "[I") (by decide +kernel)
  have fl59 := hts (.fieldLink RX2 59 "DoorBenchModel" "move" "[I") (by decide +kernel)
  have inX2 : ∀ w ∈ wsX20, w ∈ wsX2_backward := by decide +kernel
  obtain ⟨hI0, hId, hIr, hIs, hIc⟩ := id hI
  have hmo : 0 ≤ mo.toInt ∧ mo.toInt ≤ 5 := by omega
  refine c_bipush hx hb dX2_backward_0 (by decide) (fun v0 i0 => ?_)
  refine lv_aload_n hx hb dX2_backward_2 rfl (lv_at hl 0 rfl) ?_
  refine va_get (D := D) (ci := 2) (v := .int T) (C := RX2) (T := TX2) (N := 21) hx hb hts inX2 hown hK hP 0 rfl rfl 0 (by decide) fl7 (fun _ h9 => h9) rfl dX2_backward_3 ?_
  refine c_imul (a := 6) (b := T.toInt) hx hb dX2_backward_6 (by omega) rfl (by omega) (fun v6 i6 => ?_)
  refine lv_istore_n (lv' := [(1, .int v6), (0, .ref (ad 0))]) hx hb dX2_backward_7 rfl hl (by decide) rfl (fun ls hl => ?_)
  refine c_iconst hx hb dX2_backward_8 (by decide) (fun v8 i8 => ?_)
  refine lv_istore_n (lv' := [(2, .int v8), (1, .int v6), (0, .ref (ad 0))]) hx hb dX2_backward_9 rfl hl (by decide) rfl (fun ls hl => ?_)
  refine lv_iload_n hx hb dX2_backward_10 rfl (lv_at hl 0 rfl) ?_
  refine c_bipush hx hb dX2_backward_11 (by decide) (fun v11 i11 => ?_)
  refine c_icmp_ge (tgt := 42) hx hb dX2_backward_13 (by decide) (fun c13 => absurd c13 (by omega)) (fun c13 => ?_)
  refine lv_aload_n hx hb dX2_backward_16 rfl (lv_at hl 2 rfl) ?_
  refine va_get (D := D) (ci := 2) (v := .ref (ad 14)) (C := RX2) (T := TX2) (N := 21) hx hb hts inX2 hown hK hP 0 rfl rfl 17 (by decide) fl53 (fun _ h9 => h9) rfl dX2_backward_17 ?_
  refine lv_iload_n hx hb dX2_backward_20 rfl (lv_at hl 1 rfl) ?_
  refine lv_iload_n hx hb dX2_backward_21 rfl (lv_at hl 0 rfl) ?_
  refine c_iadd hx hb dX2_backward_22 (by omega) (fun v22 i22 => ?_)
  refine lv_iload_n hx hb dX2_backward_23 rfl (lv_at hl 0 rfl) ?_
  refine c_iconst hx hb dX2_backward_24 (by decide) (fun v24 i24 => ?_)
  refine c_irem (a := 0) (b := 2) hx hb dX2_backward_25 (by omega) (by omega) (by omega) (by omega) (fun v25 i25 => ?_)
  refine c_if_ne (tgt := 33) hx hb dX2_backward_26 (by decide) (fun c26 => absurd c26 (by omega)) (fun c26 => ?_)
  refine c_iconst hx hb dX2_backward_29 (by decide) (fun v29 i29 => ?_)
  refine lv_goto (tgt := 35) hx hb dX2_backward_30 (by decide) ?_
  refine c_iast hx hb hK hP hD hS 14 0 rfl rfl (6 * Tn) (by omega) (by omega) (WM cI ad f ah (upd bk (6 * Tn) v29) bo mv T Dv C th mo) rfl dX2_backward_35 (fun H locs hP hD hS => ?_)
  refine c_iinc (k := 0) hx hb (fun v36 => [(2, .int v36), (1, .int v6), (0, .ref (ad 0))]) dX2_backward_36 hl rfl (by decide) (by omega) (by decide) (fun _ => rfl) (fun v36 ls i36 hl => ?_)
  have hl : lv_has ls 5 [(2, .int v36), (1, .int v6), (0, .ref (ad 0))] := hl
  refine lv_goto (tgt := 10) hx hb dX2_backward_39 (by decide) ?_
  refine lv_iload_n hx hb dX2_backward_10 rfl (lv_at hl 0 rfl) ?_
  refine c_bipush hx hb dX2_backward_11 (by decide) (fun v11_2 i11_2 => ?_)
  refine c_icmp_ge (tgt := 42) hx hb dX2_backward_13 (by decide) (fun c13_2 => absurd c13_2 (by omega)) (fun c13_2 => ?_)
  refine lv_aload_n hx hb dX2_backward_16 rfl (lv_at hl 2 rfl) ?_
  refine va_get (D := D) (ci := 2) (v := .ref (ad 14)) (C := RX2) (T := TX2) (N := 21) hx hb hts inX2 hown hK hP 0 rfl rfl 17 (by decide) fl53 (fun _ h9 => h9) rfl dX2_backward_17 ?_
  refine lv_iload_n hx hb dX2_backward_20 rfl (lv_at hl 1 rfl) ?_
  refine lv_iload_n hx hb dX2_backward_21 rfl (lv_at hl 0 rfl) ?_
  refine c_iadd hx hb dX2_backward_22 (by omega) (fun v22_2 i22_2 => ?_)
  refine lv_iload_n hx hb dX2_backward_23 rfl (lv_at hl 0 rfl) ?_
  refine c_iconst hx hb dX2_backward_24 (by decide) (fun v24_2 i24_2 => ?_)
  refine c_irem (a := 1) (b := 2) hx hb dX2_backward_25 (by omega) (by omega) (by omega) (by omega) (fun v25_2 i25_2 => ?_)
  refine c_if_ne (tgt := 33) hx hb dX2_backward_26 (by decide) (fun c26_2 => ?_) (fun c26_2 => absurd c26_2 (by omega))
  refine c_ldc (n := 1000000) hx hb hown (hts (.constant RX2 112 (1000000)) (by decide +kernel)) dX2_backward_33 (by decide) (fun v33 i33 => ?_)
  refine c_iast hx hb hK hP hD hS 14 0 rfl rfl (6 * Tn + 1) (by omega) (by omega) (WM cI ad f ah (upd (upd bk (6 * Tn) v29) (6 * Tn + 1) v33) bo mv T Dv C th mo) rfl dX2_backward_35 (fun H locs hP hD hS => ?_)
  refine c_iinc (k := 0) hx hb (fun v36_2 => [(2, .int v36_2), (1, .int v6), (0, .ref (ad 0))]) dX2_backward_36 hl rfl (by decide) (by omega) (by decide) (fun _ => rfl) (fun v36_2 ls i36_2 hl => ?_)
  have hl : lv_has ls 5 [(2, .int v36_2), (1, .int v6), (0, .ref (ad 0))] := hl
  refine lv_goto (tgt := 10) hx hb dX2_backward_39 (by decide) ?_
  refine lv_iload_n hx hb dX2_backward_10 rfl (lv_at hl 0 rfl) ?_
  refine c_bipush hx hb dX2_backward_11 (by decide) (fun v11_3 i11_3 => ?_)
  refine c_icmp_ge (tgt := 42) hx hb dX2_backward_13 (by decide) (fun c13_3 => absurd c13_3 (by omega)) (fun c13_3 => ?_)
  refine lv_aload_n hx hb dX2_backward_16 rfl (lv_at hl 2 rfl) ?_
  refine va_get (D := D) (ci := 2) (v := .ref (ad 14)) (C := RX2) (T := TX2) (N := 21) hx hb hts inX2 hown hK hP 0 rfl rfl 17 (by decide) fl53 (fun _ h9 => h9) rfl dX2_backward_17 ?_
  refine lv_iload_n hx hb dX2_backward_20 rfl (lv_at hl 1 rfl) ?_
  refine lv_iload_n hx hb dX2_backward_21 rfl (lv_at hl 0 rfl) ?_
  refine c_iadd hx hb dX2_backward_22 (by omega) (fun v22_3 i22_3 => ?_)
  refine lv_iload_n hx hb dX2_backward_23 rfl (lv_at hl 0 rfl) ?_
  refine c_iconst hx hb dX2_backward_24 (by decide) (fun v24_3 i24_3 => ?_)
  refine c_irem (a := 2) (b := 2) hx hb dX2_backward_25 (by omega) (by omega) (by omega) (by omega) (fun v25_3 i25_3 => ?_)
  refine c_if_ne (tgt := 33) hx hb dX2_backward_26 (by decide) (fun c26_3 => absurd c26_3 (by omega)) (fun c26_3 => ?_)
  refine c_iconst hx hb dX2_backward_29 (by decide) (fun v29_2 i29_2 => ?_)
  refine lv_goto (tgt := 35) hx hb dX2_backward_30 (by decide) ?_
  refine c_iast hx hb hK hP hD hS 14 0 rfl rfl (6 * Tn + 2) (by omega) (by omega) (WM cI ad f ah (upd (upd (upd bk (6 * Tn) v29) (6 * Tn + 1) v33) (6 * Tn + 2) v29_2) bo mv T Dv C th mo) rfl dX2_backward_35 (fun H locs hP hD hS => ?_)
  refine c_iinc (k := 0) hx hb (fun v36_3 => [(2, .int v36_3), (1, .int v6), (0, .ref (ad 0))]) dX2_backward_36 hl rfl (by decide) (by omega) (by decide) (fun _ => rfl) (fun v36_3 ls i36_3 hl => ?_)
  have hl : lv_has ls 5 [(2, .int v36_3), (1, .int v6), (0, .ref (ad 0))] := hl
  refine lv_goto (tgt := 10) hx hb dX2_backward_39 (by decide) ?_
  refine lv_iload_n hx hb dX2_backward_10 rfl (lv_at hl 0 rfl) ?_
  refine c_bipush hx hb dX2_backward_11 (by decide) (fun v11_4 i11_4 => ?_)
  refine c_icmp_ge (tgt := 42) hx hb dX2_backward_13 (by decide) (fun c13_4 => absurd c13_4 (by omega)) (fun c13_4 => ?_)
  refine lv_aload_n hx hb dX2_backward_16 rfl (lv_at hl 2 rfl) ?_
  refine va_get (D := D) (ci := 2) (v := .ref (ad 14)) (C := RX2) (T := TX2) (N := 21) hx hb hts inX2 hown hK hP 0 rfl rfl 17 (by decide) fl53 (fun _ h9 => h9) rfl dX2_backward_17 ?_
  refine lv_iload_n hx hb dX2_backward_20 rfl (lv_at hl 1 rfl) ?_
  refine lv_iload_n hx hb dX2_backward_21 rfl (lv_at hl 0 rfl) ?_
  refine c_iadd hx hb dX2_backward_22 (by omega) (fun v22_4 i22_4 => ?_)
  refine lv_iload_n hx hb dX2_backward_23 rfl (lv_at hl 0 rfl) ?_
  refine c_iconst hx hb dX2_backward_24 (by decide) (fun v24_4 i24_4 => ?_)
  refine c_irem (a := 3) (b := 2) hx hb dX2_backward_25 (by omega) (by omega) (by omega) (by omega) (fun v25_4 i25_4 => ?_)
  refine c_if_ne (tgt := 33) hx hb dX2_backward_26 (by decide) (fun c26_4 => ?_) (fun c26_4 => absurd c26_4 (by omega))
  refine c_ldc (n := 1000000) hx hb hown (hts (.constant RX2 112 (1000000)) (by decide +kernel)) dX2_backward_33 (by decide) (fun v33_2 i33_2 => ?_)
  refine c_iast hx hb hK hP hD hS 14 0 rfl rfl (6 * Tn + 3) (by omega) (by omega) (WM cI ad f ah (upd (upd (upd (upd bk (6 * Tn) v29) (6 * Tn + 1) v33) (6 * Tn + 2) v29_2) (6 * Tn + 3) v33_2) bo mv T Dv C th mo) rfl dX2_backward_35 (fun H locs hP hD hS => ?_)
  refine c_iinc (k := 0) hx hb (fun v36_4 => [(2, .int v36_4), (1, .int v6), (0, .ref (ad 0))]) dX2_backward_36 hl rfl (by decide) (by omega) (by decide) (fun _ => rfl) (fun v36_4 ls i36_4 hl => ?_)
  have hl : lv_has ls 5 [(2, .int v36_4), (1, .int v6), (0, .ref (ad 0))] := hl
  refine lv_goto (tgt := 10) hx hb dX2_backward_39 (by decide) ?_
  refine lv_iload_n hx hb dX2_backward_10 rfl (lv_at hl 0 rfl) ?_
  refine c_bipush hx hb dX2_backward_11 (by decide) (fun v11_5 i11_5 => ?_)
  refine c_icmp_ge (tgt := 42) hx hb dX2_backward_13 (by decide) (fun c13_5 => absurd c13_5 (by omega)) (fun c13_5 => ?_)
  refine lv_aload_n hx hb dX2_backward_16 rfl (lv_at hl 2 rfl) ?_
  refine va_get (D := D) (ci := 2) (v := .ref (ad 14)) (C := RX2) (T := TX2) (N := 21) hx hb hts inX2 hown hK hP 0 rfl rfl 17 (by decide) fl53 (fun _ h9 => h9) rfl dX2_backward_17 ?_
  refine lv_iload_n hx hb dX2_backward_20 rfl (lv_at hl 1 rfl) ?_
  refine lv_iload_n hx hb dX2_backward_21 rfl (lv_at hl 0 rfl) ?_
  refine c_iadd hx hb dX2_backward_22 (by omega) (fun v22_5 i22_5 => ?_)
  refine lv_iload_n hx hb dX2_backward_23 rfl (lv_at hl 0 rfl) ?_
  refine c_iconst hx hb dX2_backward_24 (by decide) (fun v24_5 i24_5 => ?_)
  refine c_irem (a := 4) (b := 2) hx hb dX2_backward_25 (by omega) (by omega) (by omega) (by omega) (fun v25_5 i25_5 => ?_)
  refine c_if_ne (tgt := 33) hx hb dX2_backward_26 (by decide) (fun c26_5 => absurd c26_5 (by omega)) (fun c26_5 => ?_)
  refine c_iconst hx hb dX2_backward_29 (by decide) (fun v29_3 i29_3 => ?_)
  refine lv_goto (tgt := 35) hx hb dX2_backward_30 (by decide) ?_
  refine c_iast hx hb hK hP hD hS 14 0 rfl rfl (6 * Tn + 4) (by omega) (by omega) (WM cI ad f ah (upd (upd (upd (upd (upd bk (6 * Tn) v29) (6 * Tn + 1) v33) (6 * Tn + 2) v29_2) (6 * Tn + 3) v33_2) (6 * Tn + 4) v29_3) bo mv T Dv C th mo) rfl dX2_backward_35 (fun H locs hP hD hS => ?_)
  refine c_iinc (k := 0) hx hb (fun v36_5 => [(2, .int v36_5), (1, .int v6), (0, .ref (ad 0))]) dX2_backward_36 hl rfl (by decide) (by omega) (by decide) (fun _ => rfl) (fun v36_5 ls i36_5 hl => ?_)
  have hl : lv_has ls 5 [(2, .int v36_5), (1, .int v6), (0, .ref (ad 0))] := hl
  refine lv_goto (tgt := 10) hx hb dX2_backward_39 (by decide) ?_
  refine lv_iload_n hx hb dX2_backward_10 rfl (lv_at hl 0 rfl) ?_
  refine c_bipush hx hb dX2_backward_11 (by decide) (fun v11_6 i11_6 => ?_)
  refine c_icmp_ge (tgt := 42) hx hb dX2_backward_13 (by decide) (fun c13_6 => absurd c13_6 (by omega)) (fun c13_6 => ?_)
  refine lv_aload_n hx hb dX2_backward_16 rfl (lv_at hl 2 rfl) ?_
  refine va_get (D := D) (ci := 2) (v := .ref (ad 14)) (C := RX2) (T := TX2) (N := 21) hx hb hts inX2 hown hK hP 0 rfl rfl 17 (by decide) fl53 (fun _ h9 => h9) rfl dX2_backward_17 ?_
  refine lv_iload_n hx hb dX2_backward_20 rfl (lv_at hl 1 rfl) ?_
  refine lv_iload_n hx hb dX2_backward_21 rfl (lv_at hl 0 rfl) ?_
  refine c_iadd hx hb dX2_backward_22 (by omega) (fun v22_6 i22_6 => ?_)
  refine lv_iload_n hx hb dX2_backward_23 rfl (lv_at hl 0 rfl) ?_
  refine c_iconst hx hb dX2_backward_24 (by decide) (fun v24_6 i24_6 => ?_)
  refine c_irem (a := 5) (b := 2) hx hb dX2_backward_25 (by omega) (by omega) (by omega) (by omega) (fun v25_6 i25_6 => ?_)
  refine c_if_ne (tgt := 33) hx hb dX2_backward_26 (by decide) (fun c26_6 => ?_) (fun c26_6 => absurd c26_6 (by omega))
  refine c_ldc (n := 1000000) hx hb hown (hts (.constant RX2 112 (1000000)) (by decide +kernel)) dX2_backward_33 (by decide) (fun v33_3 i33_3 => ?_)
  refine c_iast hx hb hK hP hD hS 14 0 rfl rfl (6 * Tn + 5) (by omega) (by omega) (WM cI ad f ah (upd (upd (upd (upd (upd (upd bk (6 * Tn) v29) (6 * Tn + 1) v33) (6 * Tn + 2) v29_2) (6 * Tn + 3) v33_2) (6 * Tn + 4) v29_3) (6 * Tn + 5) v33_3) bo mv T Dv C th mo) rfl dX2_backward_35 (fun H locs hP hD hS => ?_)
  refine c_iinc (k := 0) hx hb (fun v36_6 => [(2, .int v36_6), (1, .int v6), (0, .ref (ad 0))]) dX2_backward_36 hl rfl (by decide) (by omega) (by decide) (fun _ => rfl) (fun v36_6 ls i36_6 hl => ?_)
  have hl : lv_has ls 5 [(2, .int v36_6), (1, .int v6), (0, .ref (ad 0))] := hl
  refine lv_goto (tgt := 10) hx hb dX2_backward_39 (by decide) ?_
  refine lv_iload_n hx hb dX2_backward_10 rfl (lv_at hl 0 rfl) ?_
  refine c_bipush hx hb dX2_backward_11 (by decide) (fun v11_7 i11_7 => ?_)
  refine c_icmp_ge (tgt := 42) hx hb dX2_backward_13 (by decide) (fun c13_7 => ?_) (fun c13_7 => absurd c13_7 (by omega))
  have Ubk0 := up6 (s := bk) (6 * Tn) (x0 := v29) (x1 := v33) (x2 := v29_2) (x3 := v33_2) (x4 := v29_3) (x5 := v33_3) (show 6 * Tn = 6 * Tn by omega) (show 6 * Tn + 1 = 6 * Tn + 1 by omega) (show 6 * Tn + 2 = 6 * Tn + 2 by omega) (show 6 * Tn + 3 = 6 * Tn + 3 by omega) (show 6 * Tn + 4 = 6 * Tn + 4 by omega) (show 6 * Tn + 5 = 6 * Tn + 5 by omega)
  obtain ⟨bk0, ebk0⟩ : ∃ z, z = (upd (upd (upd (upd (upd (upd bk (6 * Tn) v29) (6 * Tn + 1) v33) (6 * Tn + 2) v29_2) (6 * Tn + 3) v33_2) (6 * Tn + 4) v29_3) (6 * Tn + 5) v33_3) := ⟨_, rfl⟩
  rw [← ebk0] at hP hD Ubk0
  have bk0e0 : rwM bk0 Tn 0 = v29.toInt := congrArg Int32.toInt Ubk0.1.1
  have bk0e1 : rwM bk0 Tn 1 = v33.toInt := congrArg Int32.toInt Ubk0.1.2.1
  have bk0e2 : rwM bk0 Tn 2 = v29_2.toInt := congrArg Int32.toInt Ubk0.1.2.2.1
  have bk0e3 : rwM bk0 Tn 3 = v33_2.toInt := congrArg Int32.toInt Ubk0.1.2.2.2.1
  have bk0e4 : rwM bk0 Tn 4 = v29_3.toInt := congrArg Int32.toInt Ubk0.1.2.2.2.2.1
  have bk0e5 : rwM bk0 Tn 5 = v33_3.toInt := congrArg Int32.toInt Ubk0.1.2.2.2.2.2
  have hr0 : rwM bk0 Tn 0 = 0 ∧ rwM bk0 Tn 1 = 1000000 ∧ rwM bk0 Tn 2 = 0 ∧ rwM bk0 Tn 3 = 1000000 ∧ rwM bk0 Tn 4 = 0 ∧ rwM bk0 Tn 5 = 1000000 := by
    rw [bk0e0, bk0e1, bk0e2, bk0e3, bk0e4, bk0e5]; omega
  have hb0 : bd (rwM bk0 Tn) 1500000 := by unfold bd; omega
  have hB0 := Bk_0 (f := f) (Tn := Tn) (Dn := Dn) (Cn := Cn) hr0
  have hsm : ∀ n, n ≤ Tn → ∃ a b, Bkv f Tn Dn Cn n a b := fun n hn => by
    obtain ⟨a, b, h⟩ := Trv_some hF n hn
    exact ⟨a, b, ((Trv_eq hFb n hn a b).mp h).2⟩
  refine lv_aload_n hx hb dX2_backward_42 rfl (lv_at hl 2 rfl) ?_
  refine lv_aload_n hx hb dX2_backward_43 rfl (lv_at hl 2 rfl) ?_
  refine va_get (D := D) (ci := 2) (v := .ref (ad 14)) (C := RX2) (T := TX2) (N := 21) hx hb hts inX2 hown hK hP 0 rfl rfl 17 (by decide) fl53 (fun _ h9 => h9) rfl dX2_backward_44 ?_
  refine lv_aload_n hx hb dX2_backward_47 rfl (lv_at hl 2 rfl) ?_
  refine va_get (D := D) (ci := 2) (v := .int T) (C := RX2) (T := TX2) (N := 21) hx hb hts inX2 hown hK hP 0 rfl rfl 0 (by decide) fl7 (fun _ h9 => h9) rfl dX2_backward_48 ?_
  refine c_cvi (As := [.ref (ad 14), .int T]) (ci := 2) (q0 := 0) (wr := [((ad 1), .inl (cI, 6, .inl (f 0))), ((ad 2), .inl (cI, 6, .inl (f 1))), ((ad 3), .inl (cI, 6, .inl (f 2))), ((ad 4), .inl (cI, 6, .inl (f 3))), ((ad 5), .inl (cI, 360, .inl (f 4))), ((ad 6), .inl (cI, 360, .inl (f 5))), ((ad 7), .inl (cI, 2, .inl (f 6))), ((ad 8), .inl (cI, 2, .inl (f 7))), ((ad 13), .inl (cI, 366, .inl ah)), ((ad 15), .inl (cI, 366, .inl bo)), ((ad 16), .inl (cI, 6, .inl mv))]) (wF := (fun uZ => (WM cI ad f ah uZ bo mv T Dv C th mo))) (kX2_holds l D cI ad (ad 14) f T Dv C th mo bk0 Tn Dn Cn T (Tn) hC hI (by omega) (by omega) hb0) ⟨hx, hb, hml, hown, hts⟩ (cwV 2 hts gX2_backward_X2_holds rfl rfl rfl (by decide +kernel) ⟨Nat.le_of_ble_eq_true rfl, Nat.le_of_ble_eq_true rfl⟩) hK hP hD hS hA [0, 9, 10, 11, 12, 14] [1, 2, 3, 4, 5, 6, 7, 8, 13, 15, 16] [11, 0, 1, 2, 3, 4, 5, 6, 7, 12, 13, 14, 15, 8, 16, 9, 10] rfl (by decide) rfl (by decide) (by decide) (by decide) (fun _ => rfl) rfl rfl rfl rfl hl.1 rfl (Nat.le_of_ble_eq_true rfl) dX2_backward_51 ⟨Nat.zero_le _, Nat.zero_le _⟩ (fun r51 u51 H locs q51 hP hD hS => ?_)
  try dsimp only at q51
  have hP : va_P D vwCl (WM cI ad f ah u51 bo mv T Dv C th mo) H := hP
  have hD : va_D A (WM cI ad f ah u51 bo mv T Dv C th mo) := hD
  refine lv_istore_n (lv' := [(2, .int r51), (1, .int v6), (0, .ref (ad 0))]) hx hb dX2_backward_54 rfl hl (by decide) rfl (fun ls hl => ?_)
  have hT0 : Tt (rwM u51 Tn) (Bkv f Tn Dn Cn 0) := by
    rcases q51.1 with ⟨-, z⟩ | ⟨-, z⟩
    · exact z.congr hB0
    · obtain ⟨a, b, h⟩ := hsm 0 (by omega)
      exact absurd ((hB0 a b).mpr h) (z a b)
  have hh0 : bh (rwM u51 Tn) 1000000 := Tt_bh (r := rwM bk0 Tn) hT0 (fun a b h => ⟨((hB0 a b).mpr h).1, alw_0 _ (Bkv_alw h)⟩) (by omega)
  refine lv_aload_n hx hb dX2_backward_55 rfl (lv_at hl 2 rfl) ?_
  refine va_get (D := D) (ci := 2) (v := .int T) (C := RX2) (T := TX2) (N := 21) hx hb hts inX2 hown hK hP 0 rfl rfl 0 (by decide) fl7 (fun _ h9 => h9) rfl dX2_backward_56 ?_
  refine c_iconst hx hb dX2_backward_59 (by decide) (fun v59 i59 => ?_)
  refine c_isub hx hb dX2_backward_60 (by omega) (fun v60 i60 => ?_)
  refine lv_istore_n (lv' := [(3, .int v60), (2, .int r51), (1, .int v6), (0, .ref (ad 0))]) hx hb dX2_backward_61 rfl hl (by decide) rfl (fun ls hl => ?_)
  have HL62 : ∀ (n : Nat) (t : Nat) (x3 : Int32) (bk1 : Nat → Int32) (m1 : Nat → Int32) (H : Heap) (locs : List Loc) (ls : Array Slot), (x3.toInt = (t : Int) - 1) → (t ≤ Tn) → (t + 1 ≤ n) → (∀ j, t ≤ j → j ≤ Tn → Tt (rwM bk1 j) (Bkv f Tn Dn Cn (Tn - j)) ∧ bh (rwM bk1 j) (1000000 + 360 * ((Tn - j : Nat) : Int))) → va_P D vwCl (WM cI ad f ah bk1 bo m1 T Dv C th mo) H → va_D A (WM cI ad f ah bk1 bo m1 T Dv C th mo) → va_S A s.heap H locs → lv_has ls 5 [(0, .ref (ad 0)), (3, .int x3)] → W p l e ({ frames := 4, cells := 0, slots := 0, locals := 88 } : Room) s m [.ref (ad 0)].toArray below meth c H locs 0 0 (MQ below (va_Qv (fun (u : (Nat → Int32) × (Nat → Int32)) => ∀ j, j ≤ Tn → Tt (rwM u.1 j) (Bkv f Tn Dn Cn (Tn - j)) ∧ bh (rwM u.1 j) 1100000) (cB D [(cI, .int)] A (fun u : (Nat → Int32) × (Nat → Int32) => (WM cI ad f ah u.1 bo u.2 T Dv C th mo))) A) [.ref (ad 0)].toArray s 0 0 A) (F0 m 62 ls []) := by
    intro n
    induction n with
    | zero => intro t x3 bk1 m1 H locs ls hx3 ht hms hdone; exact absurd hms (by omega)
    | succ n ih62 =>
      intro t x3 bk1 m1 H locs ls hx3 ht hms hdone hP hD hS hl
      refine lv_iload_n hx hb dX2_backward_62 rfl (lv_at hl 1 rfl) ?_
      refine c_if_lt (tgt := 290) hx hb dX2_backward_63 (by decide) (fun c63 => ?_) (fun c63 => ?_)
      · skip
        exact c_rv (bk1, m1) hx hb hr hlocks hK hP hD hS dX2_backward_290 (by
                intro j hj
                obtain ⟨w1, w2⟩ := hdone j (by omega) hj
                exact ⟨w1, bh_le w2 (by omega)⟩)
      · skip
        obtain ⟨k, rfl⟩ : ∃ k, t = k + 1 := ⟨t - 1, by omega⟩
        obtain ⟨hTy, hby⟩ := hdone (k + 1) (by omega) (by omega)
        have hmb := (mvs_bd (but := -1) hI (show k < Tn by omega) hmo.1 hmo.2 Dn (Nat.le_refl _)).2
        obtain ⟨z0, z1, z2, z3, z4, z5⟩ := id hby
        have w0 : (bk1 (6 * k + 6)).toInt = rwM bk1 (k + 1) 0 := rfl
        have w1 : (bk1 (6 * k + 7)).toInt = rwM bk1 (k + 1) 1 := rfl
        have w2 : (bk1 (6 * k + 8)).toInt = rwM bk1 (k + 1) 2 := rfl
        have w3 : (bk1 (6 * k + 9)).toInt = rwM bk1 (k + 1) 3 := rfl
        have w4 : (bk1 (6 * k + 10)).toInt = rwM bk1 (k + 1) 4 := rfl
        have w5 : (bk1 (6 * k + 11)).toInt = rwM bk1 (k + 1) 5 := rfl
        refine lv_aload_n hx hb dX2_backward_66 rfl (lv_at hl 0 rfl) ?_
        refine lv_iload_n hx hb dX2_backward_67 rfl (lv_at hl 1 rfl) ?_
        refine c_iconst hx hb dX2_backward_68 (by decide) (fun v68 i68 => ?_)
        refine c_wvv (As := [.int x3, .int v68]) (ci := 2) (q0 := 0) (kX2_moves l D cI ad f ah bk1 bo m1 T Dv C th mo Tn Dn Cn x3 v68 (k) hT hDv hC hI (by omega) (by omega) hmo) ⟨hx, hb, hml, hown, hts⟩ (cwV 2 hts gX2_backward_X2_moves rfl rfl rfl (by decide +kernel) ⟨Nat.le_of_ble_eq_true rfl, Nat.le_of_ble_eq_true rfl⟩) hK hP hD hS hA rfl rfl rfl rfl hl.1 rfl (Nat.le_of_ble_eq_true rfl) dX2_backward_69 ⟨Nat.zero_le _, Nat.zero_le _⟩ (fun u69 H locs q69 hP hD hS => ?_)
        try dsimp only at q69
        have hP : va_P D vwCl (WM cI ad f ah bk1 bo u69 T Dv C th mo) H := hP
        have hD : va_D A (WM cI ad f ah bk1 bo u69 T Dv C th mo) := hD
        rw [i68] at q69
        have M0 := q69 0 (by omega)
        have N0 := hmb 0 (by omega)
        have M1 := q69 1 (by omega)
        have N1 := hmb 1 (by omega)
        have M2 := q69 2 (by omega)
        have N2 := hmb 2 (by omega)
        have M3 := q69 3 (by omega)
        have N3 := hmb 3 (by omega)
        have M4 := q69 4 (by omega)
        have N4 := hmb 4 (by omega)
        have M5 := q69 5 (by omega)
        have N5 := hmb 5 (by omega)
        refine c_bipush hx hb dX2_backward_72 (by decide) (fun v72 i72 => ?_)
        refine lv_iload_n hx hb dX2_backward_74 rfl (lv_at hl 1 rfl) ?_
        refine c_imul (a := 6) (b := x3.toInt) hx hb dX2_backward_75 (by omega) rfl (by omega) (fun v75 i75 => ?_)
        refine lv_istore (lv' := [(4, .int v75), (0, .ref (ad 0)), (3, .int x3)]) hx hb dX2_backward_76 hl (by decide) rfl (fun ls hl => ?_)
        refine lv_aload_n hx hb dX2_backward_78 rfl (lv_at hl 1 rfl) ?_
        refine va_get (D := D) (ci := 2) (v := .ref (ad 14)) (C := RX2) (T := TX2) (N := 21) hx hb hts inX2 hown hK hP 0 rfl rfl 17 (by decide) fl53 (fun _ h9 => h9) rfl dX2_backward_79 ?_
        refine lv_iload hx hb dX2_backward_82 (lv_at hl 0 rfl) ?_
        refine lv_aload_n hx hb dX2_backward_84 rfl (lv_at hl 1 rfl) ?_
        refine va_get (D := D) (ci := 2) (v := .ref (ad 14)) (C := RX2) (T := TX2) (N := 21) hx hb hts inX2 hown hK hP 0 rfl rfl 17 (by decide) fl53 (fun _ h9 => h9) rfl dX2_backward_85 ?_
        refine lv_iload hx hb dX2_backward_88 (lv_at hl 0 rfl) ?_
        refine c_bipush hx hb dX2_backward_90 (by decide) (fun v90 i90 => ?_)
        refine c_iadd hx hb dX2_backward_92 (by omega) (fun v92 i92 => ?_)
        refine c_iald hx hb hK hP 14 0 rfl rfl (6 * k + 6) (by omega) (by omega) dX2_backward_93 (fun v93 e93 => ?_)
        have i93 : v93.toInt = (bk1 (6 * k + 6)).toInt := by rw [e93]
        refine lv_aload_n hx hb dX2_backward_94 rfl (lv_at hl 1 rfl) ?_
        refine va_get (D := D) (ci := 2) (v := .ref (ad 16)) (C := RX2) (T := TX2) (N := 21) hx hb hts inX2 hown hK hP 0 rfl rfl 19 (by decide) fl59 (fun _ h9 => h9) rfl dX2_backward_95 ?_
        refine c_iconst hx hb dX2_backward_98 (by decide) (fun v98 i98 => ?_)
        refine c_iald hx hb hK hP 16 0 rfl rfl (1) (by omega) (by omega) dX2_backward_99 (fun v99 e99 => ?_)
        have i99 : v99.toInt = (u69 (1)).toInt := by rw [e99]
        refine c_isub hx hb dX2_backward_100 (by omega) (fun v100 i100 => ?_)
        refine lv_aload_n hx hb dX2_backward_101 rfl (lv_at hl 1 rfl) ?_
        refine va_get (D := D) (ci := 2) (v := .ref (ad 16)) (C := RX2) (T := TX2) (N := 21) hx hb hts inX2 hown hK hP 0 rfl rfl 19 (by decide) fl59 (fun _ h9 => h9) rfl dX2_backward_102 ?_
        refine c_iconst hx hb dX2_backward_105 (by decide) (fun v105 i105 => ?_)
        refine c_iald hx hb hK hP 16 0 rfl rfl (4) (by omega) (by omega) dX2_backward_106 (fun v106 e106 => ?_)
        have i106 : v106.toInt = (u69 (4)).toInt := by rw [e106]
        refine c_iadd hx hb dX2_backward_107 (by omega) (fun v107 i107 => ?_)
        refine c_iast hx hb hK hP hD hS 14 0 rfl rfl (6 * k) (by omega) (by omega) (WM cI ad f ah (upd bk1 (6 * k) v107) bo u69 T Dv C th mo) rfl dX2_backward_108 (fun H locs hP hD hS => ?_)
        refine lv_aload_n hx hb dX2_backward_109 rfl (lv_at hl 1 rfl) ?_
        refine va_get (D := D) (ci := 2) (v := .ref (ad 14)) (C := RX2) (T := TX2) (N := 21) hx hb hts inX2 hown hK hP 0 rfl rfl 17 (by decide) fl53 (fun _ h9 => h9) rfl dX2_backward_110 ?_
        refine lv_iload hx hb dX2_backward_113 (lv_at hl 0 rfl) ?_
        refine c_iconst hx hb dX2_backward_115 (by decide) (fun v115 i115 => ?_)
        refine c_iadd hx hb dX2_backward_116 (by omega) (fun v116 i116 => ?_)
        refine lv_aload_n hx hb dX2_backward_117 rfl (lv_at hl 1 rfl) ?_
        refine va_get (D := D) (ci := 2) (v := .ref (ad 14)) (C := RX2) (T := TX2) (N := 21) hx hb hts inX2 hown hK hP 0 rfl rfl 17 (by decide) fl53 (fun _ h9 => h9) rfl dX2_backward_118 ?_
        refine lv_iload hx hb dX2_backward_121 (lv_at hl 0 rfl) ?_
        refine c_bipush hx hb dX2_backward_123 (by decide) (fun v123 i123 => ?_)
        refine c_iadd hx hb dX2_backward_125 (by omega) (fun v125 i125 => ?_)
        refine c_iald hx hb hK hP 14 0 rfl rfl (6 * k + 7) (by omega) (by omega) dX2_backward_126 (fun v126 e126 => ?_)
        rw [pk_un (by omega)] at e126
        have i126 : v126.toInt = (bk1 (6 * k + 7)).toInt := by rw [e126]
        refine lv_aload_n hx hb dX2_backward_127 rfl (lv_at hl 1 rfl) ?_
        refine va_get (D := D) (ci := 2) (v := .ref (ad 16)) (C := RX2) (T := TX2) (N := 21) hx hb hts inX2 hown hK hP 0 rfl rfl 19 (by decide) fl59 (fun _ h9 => h9) rfl dX2_backward_128 ?_
        refine c_iconst hx hb dX2_backward_131 (by decide) (fun v131 i131 => ?_)
        refine c_iald hx hb hK hP 16 0 rfl rfl (0) (by omega) (by omega) dX2_backward_132 (fun v132 e132 => ?_)
        have i132 : v132.toInt = (u69 (0)).toInt := by rw [e132]
        refine c_isub hx hb dX2_backward_133 (by omega) (fun v133 i133 => ?_)
        refine lv_aload_n hx hb dX2_backward_134 rfl (lv_at hl 1 rfl) ?_
        refine va_get (D := D) (ci := 2) (v := .ref (ad 16)) (C := RX2) (T := TX2) (N := 21) hx hb hts inX2 hown hK hP 0 rfl rfl 19 (by decide) fl59 (fun _ h9 => h9) rfl dX2_backward_135 ?_
        refine c_iconst hx hb dX2_backward_138 (by decide) (fun v138 i138 => ?_)
        refine c_iald hx hb hK hP 16 0 rfl rfl (5) (by omega) (by omega) dX2_backward_139 (fun v139 e139 => ?_)
        have i139 : v139.toInt = (u69 (5)).toInt := by rw [e139]
        refine c_iadd hx hb dX2_backward_140 (by omega) (fun v140 i140 => ?_)
        refine c_iast hx hb hK hP hD hS 14 0 rfl rfl (6 * k + 1) (by omega) (by omega) (WM cI ad f ah (upd (upd bk1 (6 * k) v107) (6 * k + 1) v140) bo u69 T Dv C th mo) rfl dX2_backward_141 (fun H locs hP hD hS => ?_)
        refine lv_aload_n hx hb dX2_backward_142 rfl (lv_at hl 1 rfl) ?_
        refine va_get (D := D) (ci := 2) (v := .ref (ad 14)) (C := RX2) (T := TX2) (N := 21) hx hb hts inX2 hown hK hP 0 rfl rfl 17 (by decide) fl53 (fun _ h9 => h9) rfl dX2_backward_143 ?_
        refine lv_iload hx hb dX2_backward_146 (lv_at hl 0 rfl) ?_
        refine c_iconst hx hb dX2_backward_148 (by decide) (fun v148 i148 => ?_)
        refine c_iadd hx hb dX2_backward_149 (by omega) (fun v149 i149 => ?_)
        refine lv_aload_n hx hb dX2_backward_150 rfl (lv_at hl 1 rfl) ?_
        refine va_get (D := D) (ci := 2) (v := .ref (ad 14)) (C := RX2) (T := TX2) (N := 21) hx hb hts inX2 hown hK hP 0 rfl rfl 17 (by decide) fl53 (fun _ h9 => h9) rfl dX2_backward_151 ?_
        refine lv_iload hx hb dX2_backward_154 (lv_at hl 0 rfl) ?_
        refine c_bipush hx hb dX2_backward_156 (by decide) (fun v156 i156 => ?_)
        refine c_iadd hx hb dX2_backward_158 (by omega) (fun v158 i158 => ?_)
        refine c_iald hx hb hK hP 14 0 rfl rfl (6 * k + 8) (by omega) (by omega) dX2_backward_159 (fun v159 e159 => ?_)
        rw [pk_un (by omega), pk_un (by omega)] at e159
        have i159 : v159.toInt = (bk1 (6 * k + 8)).toInt := by rw [e159]
        refine lv_aload_n hx hb dX2_backward_160 rfl (lv_at hl 1 rfl) ?_
        refine va_get (D := D) (ci := 2) (v := .ref (ad 16)) (C := RX2) (T := TX2) (N := 21) hx hb hts inX2 hown hK hP 0 rfl rfl 19 (by decide) fl59 (fun _ h9 => h9) rfl dX2_backward_161 ?_
        refine c_iconst hx hb dX2_backward_164 (by decide) (fun v164 i164 => ?_)
        refine c_iald hx hb hK hP 16 0 rfl rfl (3) (by omega) (by omega) dX2_backward_165 (fun v165 e165 => ?_)
        have i165 : v165.toInt = (u69 (3)).toInt := by rw [e165]
        refine c_isub hx hb dX2_backward_166 (by omega) (fun v166 i166 => ?_)
        refine lv_aload_n hx hb dX2_backward_167 rfl (lv_at hl 1 rfl) ?_
        refine va_get (D := D) (ci := 2) (v := .ref (ad 16)) (C := RX2) (T := TX2) (N := 21) hx hb hts inX2 hown hK hP 0 rfl rfl 19 (by decide) fl59 (fun _ h9 => h9) rfl dX2_backward_168 ?_
        refine c_iconst hx hb dX2_backward_171 (by decide) (fun v171 i171 => ?_)
        refine c_iald hx hb hK hP 16 0 rfl rfl (5) (by omega) (by omega) dX2_backward_172 (fun v172 e172 => ?_)
        have i172 : v172.toInt = (u69 (5)).toInt := by rw [e172]
        refine c_isub hx hb dX2_backward_173 (by omega) (fun v173 i173 => ?_)
        refine c_iast hx hb hK hP hD hS 14 0 rfl rfl (6 * k + 2) (by omega) (by omega) (WM cI ad f ah (upd (upd (upd bk1 (6 * k) v107) (6 * k + 1) v140) (6 * k + 2) v173) bo u69 T Dv C th mo) rfl dX2_backward_174 (fun H locs hP hD hS => ?_)
        refine lv_aload_n hx hb dX2_backward_175 rfl (lv_at hl 1 rfl) ?_
        refine va_get (D := D) (ci := 2) (v := .ref (ad 14)) (C := RX2) (T := TX2) (N := 21) hx hb hts inX2 hown hK hP 0 rfl rfl 17 (by decide) fl53 (fun _ h9 => h9) rfl dX2_backward_176 ?_
        refine lv_iload hx hb dX2_backward_179 (lv_at hl 0 rfl) ?_
        refine c_iconst hx hb dX2_backward_181 (by decide) (fun v181 i181 => ?_)
        refine c_iadd hx hb dX2_backward_182 (by omega) (fun v182 i182 => ?_)
        refine lv_aload_n hx hb dX2_backward_183 rfl (lv_at hl 1 rfl) ?_
        refine va_get (D := D) (ci := 2) (v := .ref (ad 14)) (C := RX2) (T := TX2) (N := 21) hx hb hts inX2 hown hK hP 0 rfl rfl 17 (by decide) fl53 (fun _ h9 => h9) rfl dX2_backward_184 ?_
        refine lv_iload hx hb dX2_backward_187 (lv_at hl 0 rfl) ?_
        refine c_bipush hx hb dX2_backward_189 (by decide) (fun v189 i189 => ?_)
        refine c_iadd hx hb dX2_backward_191 (by omega) (fun v191 i191 => ?_)
        refine c_iald hx hb hK hP 14 0 rfl rfl (6 * k + 9) (by omega) (by omega) dX2_backward_192 (fun v192 e192 => ?_)
        rw [pk_un (by omega), pk_un (by omega), pk_un (by omega)] at e192
        have i192 : v192.toInt = (bk1 (6 * k + 9)).toInt := by rw [e192]
        refine lv_aload_n hx hb dX2_backward_193 rfl (lv_at hl 1 rfl) ?_
        refine va_get (D := D) (ci := 2) (v := .ref (ad 16)) (C := RX2) (T := TX2) (N := 21) hx hb hts inX2 hown hK hP 0 rfl rfl 19 (by decide) fl59 (fun _ h9 => h9) rfl dX2_backward_194 ?_
        refine c_iconst hx hb dX2_backward_197 (by decide) (fun v197 i197 => ?_)
        refine c_iald hx hb hK hP 16 0 rfl rfl (2) (by omega) (by omega) dX2_backward_198 (fun v198 e198 => ?_)
        have i198 : v198.toInt = (u69 (2)).toInt := by rw [e198]
        refine c_isub hx hb dX2_backward_199 (by omega) (fun v199 i199 => ?_)
        refine lv_aload_n hx hb dX2_backward_200 rfl (lv_at hl 1 rfl) ?_
        refine va_get (D := D) (ci := 2) (v := .ref (ad 16)) (C := RX2) (T := TX2) (N := 21) hx hb hts inX2 hown hK hP 0 rfl rfl 19 (by decide) fl59 (fun _ h9 => h9) rfl dX2_backward_201 ?_
        refine c_iconst hx hb dX2_backward_204 (by decide) (fun v204 i204 => ?_)
        refine c_iald hx hb hK hP 16 0 rfl rfl (4) (by omega) (by omega) dX2_backward_205 (fun v205 e205 => ?_)
        have i205 : v205.toInt = (u69 (4)).toInt := by rw [e205]
        refine c_isub hx hb dX2_backward_206 (by omega) (fun v206 i206 => ?_)
        refine c_iast hx hb hK hP hD hS 14 0 rfl rfl (6 * k + 3) (by omega) (by omega) (WM cI ad f ah (upd (upd (upd (upd bk1 (6 * k) v107) (6 * k + 1) v140) (6 * k + 2) v173) (6 * k + 3) v206) bo u69 T Dv C th mo) rfl dX2_backward_207 (fun H locs hP hD hS => ?_)
        refine lv_aload_n hx hb dX2_backward_208 rfl (lv_at hl 1 rfl) ?_
        refine va_get (D := D) (ci := 2) (v := .ref (ad 14)) (C := RX2) (T := TX2) (N := 21) hx hb hts inX2 hown hK hP 0 rfl rfl 17 (by decide) fl53 (fun _ h9 => h9) rfl dX2_backward_209 ?_
        refine lv_iload hx hb dX2_backward_212 (lv_at hl 0 rfl) ?_
        refine c_iconst hx hb dX2_backward_214 (by decide) (fun v214 i214 => ?_)
        refine c_iadd hx hb dX2_backward_215 (by omega) (fun v215 i215 => ?_)
        refine lv_aload_n hx hb dX2_backward_216 rfl (lv_at hl 1 rfl) ?_
        refine va_get (D := D) (ci := 2) (v := .ref (ad 14)) (C := RX2) (T := TX2) (N := 21) hx hb hts inX2 hown hK hP 0 rfl rfl 17 (by decide) fl53 (fun _ h9 => h9) rfl dX2_backward_217 ?_
        refine lv_iload hx hb dX2_backward_220 (lv_at hl 0 rfl) ?_
        refine c_bipush hx hb dX2_backward_222 (by decide) (fun v222 i222 => ?_)
        refine c_iadd hx hb dX2_backward_224 (by omega) (fun v224 i224 => ?_)
        refine c_iald hx hb hK hP 14 0 rfl rfl (6 * k + 10) (by omega) (by omega) dX2_backward_225 (fun v225 e225 => ?_)
        rw [pk_un (by omega), pk_un (by omega), pk_un (by omega), pk_un (by omega)] at e225
        have i225 : v225.toInt = (bk1 (6 * k + 10)).toInt := by rw [e225]
        refine lv_aload_n hx hb dX2_backward_226 rfl (lv_at hl 1 rfl) ?_
        refine va_get (D := D) (ci := 2) (v := .ref (ad 16)) (C := RX2) (T := TX2) (N := 21) hx hb hts inX2 hown hK hP 0 rfl rfl 19 (by decide) fl59 (fun _ h9 => h9) rfl dX2_backward_227 ?_
        refine c_iconst hx hb dX2_backward_230 (by decide) (fun v230 i230 => ?_)
        refine c_iald hx hb hK hP 16 0 rfl rfl (1) (by omega) (by omega) dX2_backward_231 (fun v231 e231 => ?_)
        have i231 : v231.toInt = (u69 (1)).toInt := by rw [e231]
        refine c_isub hx hb dX2_backward_232 (by omega) (fun v232 i232 => ?_)
        refine lv_aload_n hx hb dX2_backward_233 rfl (lv_at hl 1 rfl) ?_
        refine va_get (D := D) (ci := 2) (v := .ref (ad 16)) (C := RX2) (T := TX2) (N := 21) hx hb hts inX2 hown hK hP 0 rfl rfl 19 (by decide) fl59 (fun _ h9 => h9) rfl dX2_backward_234 ?_
        refine c_iconst hx hb dX2_backward_237 (by decide) (fun v237 i237 => ?_)
        refine c_iald hx hb hK hP 16 0 rfl rfl (3) (by omega) (by omega) dX2_backward_238 (fun v238 e238 => ?_)
        have i238 : v238.toInt = (u69 (3)).toInt := by rw [e238]
        refine c_isub hx hb dX2_backward_239 (by omega) (fun v239 i239 => ?_)
        refine c_iast hx hb hK hP hD hS 14 0 rfl rfl (6 * k + 4) (by omega) (by omega) (WM cI ad f ah (upd (upd (upd (upd (upd bk1 (6 * k) v107) (6 * k + 1) v140) (6 * k + 2) v173) (6 * k + 3) v206) (6 * k + 4) v239) bo u69 T Dv C th mo) rfl dX2_backward_240 (fun H locs hP hD hS => ?_)
        refine lv_aload_n hx hb dX2_backward_241 rfl (lv_at hl 1 rfl) ?_
        refine va_get (D := D) (ci := 2) (v := .ref (ad 14)) (C := RX2) (T := TX2) (N := 21) hx hb hts inX2 hown hK hP 0 rfl rfl 17 (by decide) fl53 (fun _ h9 => h9) rfl dX2_backward_242 ?_
        refine lv_iload hx hb dX2_backward_245 (lv_at hl 0 rfl) ?_
        refine c_iconst hx hb dX2_backward_247 (by decide) (fun v247 i247 => ?_)
        refine c_iadd hx hb dX2_backward_248 (by omega) (fun v248 i248 => ?_)
        refine lv_aload_n hx hb dX2_backward_249 rfl (lv_at hl 1 rfl) ?_
        refine va_get (D := D) (ci := 2) (v := .ref (ad 14)) (C := RX2) (T := TX2) (N := 21) hx hb hts inX2 hown hK hP 0 rfl rfl 17 (by decide) fl53 (fun _ h9 => h9) rfl dX2_backward_250 ?_
        refine lv_iload hx hb dX2_backward_253 (lv_at hl 0 rfl) ?_
        refine c_bipush hx hb dX2_backward_255 (by decide) (fun v255 i255 => ?_)
        refine c_iadd hx hb dX2_backward_257 (by omega) (fun v257 i257 => ?_)
        refine c_iald hx hb hK hP 14 0 rfl rfl (6 * k + 11) (by omega) (by omega) dX2_backward_258 (fun v258 e258 => ?_)
        rw [pk_un (by omega), pk_un (by omega), pk_un (by omega), pk_un (by omega), pk_un (by omega)] at e258
        have i258 : v258.toInt = (bk1 (6 * k + 11)).toInt := by rw [e258]
        refine lv_aload_n hx hb dX2_backward_259 rfl (lv_at hl 1 rfl) ?_
        refine va_get (D := D) (ci := 2) (v := .ref (ad 16)) (C := RX2) (T := TX2) (N := 21) hx hb hts inX2 hown hK hP 0 rfl rfl 19 (by decide) fl59 (fun _ h9 => h9) rfl dX2_backward_260 ?_
        refine c_iconst hx hb dX2_backward_263 (by decide) (fun v263 i263 => ?_)
        refine c_iald hx hb hK hP 16 0 rfl rfl (0) (by omega) (by omega) dX2_backward_264 (fun v264 e264 => ?_)
        have i264 : v264.toInt = (u69 (0)).toInt := by rw [e264]
        refine c_isub hx hb dX2_backward_265 (by omega) (fun v265 i265 => ?_)
        refine lv_aload_n hx hb dX2_backward_266 rfl (lv_at hl 1 rfl) ?_
        refine va_get (D := D) (ci := 2) (v := .ref (ad 16)) (C := RX2) (T := TX2) (N := 21) hx hb hts inX2 hown hK hP 0 rfl rfl 19 (by decide) fl59 (fun _ h9 => h9) rfl dX2_backward_267 ?_
        refine c_iconst hx hb dX2_backward_270 (by decide) (fun v270 i270 => ?_)
        refine c_iald hx hb hK hP 16 0 rfl rfl (2) (by omega) (by omega) dX2_backward_271 (fun v271 e271 => ?_)
        have i271 : v271.toInt = (u69 (2)).toInt := by rw [e271]
        refine c_isub hx hb dX2_backward_272 (by omega) (fun v272 i272 => ?_)
        refine c_iast hx hb hK hP hD hS 14 0 rfl rfl (6 * k + 5) (by omega) (by omega) (WM cI ad f ah (upd (upd (upd (upd (upd (upd bk1 (6 * k) v107) (6 * k + 1) v140) (6 * k + 2) v173) (6 * k + 3) v206) (6 * k + 4) v239) (6 * k + 5) v272) bo u69 T Dv C th mo) rfl dX2_backward_273 (fun H locs hP hD hS => ?_)
        have Ubk2 := up6 (s := bk1) (6 * k) (x0 := v107) (x1 := v140) (x2 := v173) (x3 := v206) (x4 := v239) (x5 := v272) (show 6 * k = 6 * k by omega) (show 6 * k + 1 = 6 * k + 1 by omega) (show 6 * k + 2 = 6 * k + 2 by omega) (show 6 * k + 3 = 6 * k + 3 by omega) (show 6 * k + 4 = 6 * k + 4 by omega) (show 6 * k + 5 = 6 * k + 5 by omega)
        obtain ⟨bk2, ebk2⟩ : ∃ z, z = (upd (upd (upd (upd (upd (upd bk1 (6 * k) v107) (6 * k + 1) v140) (6 * k + 2) v173) (6 * k + 3) v206) (6 * k + 4) v239) (6 * k + 5) v272) := ⟨_, rfl⟩
        rw [← ebk2] at hP hD Ubk2
        have bk2e0 : rwM bk2 k 0 = v107.toInt := congrArg Int32.toInt Ubk2.1.1
        have bk2e1 : rwM bk2 k 1 = v140.toInt := congrArg Int32.toInt Ubk2.1.2.1
        have bk2e2 : rwM bk2 k 2 = v173.toInt := congrArg Int32.toInt Ubk2.1.2.2.1
        have bk2e3 : rwM bk2 k 3 = v206.toInt := congrArg Int32.toInt Ubk2.1.2.2.2.1
        have bk2e4 : rwM bk2 k 4 = v239.toInt := congrArg Int32.toInt Ubk2.1.2.2.2.2.1
        have bk2e5 : rwM bk2 k 5 = v272.toInt := congrArg Int32.toInt Ubk2.1.2.2.2.2.2
        rw [hmo0] at M0 M1 M2 M3 M4 M5 N0 N1 N2 N3 N4 N5
        have ce := crow_e (mvs f k 0 (-1) Dn)
        have hz : eq6 (rwM bk2 k) (dfr (rwM bk1 (k + 1)) (crow (mvs f k 0 (-1) Dn))) := by
          refine ⟨?_, ?_, ?_, ?_, ?_, ?_⟩
          · show _ = rwM bk1 (k + 1) 0 - crow (mvs f k 0 (-1) Dn) 1; rw [bk2e0]; omega
          · show _ = rwM bk1 (k + 1) 1 - crow (mvs f k 0 (-1) Dn) 0; rw [bk2e1]; omega
          · show _ = rwM bk1 (k + 1) 2 - crow (mvs f k 0 (-1) Dn) 3; rw [bk2e2]; omega
          · show _ = rwM bk1 (k + 1) 3 - crow (mvs f k 0 (-1) Dn) 2; rw [bk2e3]; omega
          · show _ = rwM bk1 (k + 1) 4 - crow (mvs f k 0 (-1) Dn) 5; rw [bk2e4]; omega
          · show _ = rwM bk1 (k + 1) 5 - crow (mvs f k 0 (-1) Dn) 4; rw [bk2e5]; omega
        have hbz : bd (rwM bk2 k) 1500000 := by
          unfold bd
          rw [bk2e0, bk2e1, bk2e2, bk2e3, bk2e4, bk2e5]
          omega
        have hhi : rwM bk2 k 1 ≤ 1000000 + 360 * ((Tn - k : Nat) : Int) ∧ rwM bk2 k 3 ≤ 1000000 + 360 * ((Tn - k : Nat) : Int) ∧ rwM bk2 k 5 ≤ 1000000 + 360 * ((Tn - k : Nat) : Int) := by
          rw [bk2e1, bk2e3, bk2e5]
          omega
        have hstep := Bk_1 hI (show k + 1 ≤ Tn by omega) hTy ⟨rfl, rfl, rfl, rfl, rfl, rfl⟩ hz
        refine lv_aload_n hx hb dX2_backward_274 rfl (lv_at hl 1 rfl) ?_
        refine lv_aload_n hx hb dX2_backward_275 rfl (lv_at hl 1 rfl) ?_
        refine va_get (D := D) (ci := 2) (v := .ref (ad 14)) (C := RX2) (T := TX2) (N := 21) hx hb hts inX2 hown hK hP 0 rfl rfl 17 (by decide) fl53 (fun _ h9 => h9) rfl dX2_backward_276 ?_
        refine lv_iload_n hx hb dX2_backward_279 rfl (lv_at hl 2 rfl) ?_
        refine c_cvi (As := [.ref (ad 14), .int x3]) (ci := 2) (q0 := 0) (wr := [((ad 1), .inl (cI, 6, .inl (f 0))), ((ad 2), .inl (cI, 6, .inl (f 1))), ((ad 3), .inl (cI, 6, .inl (f 2))), ((ad 4), .inl (cI, 6, .inl (f 3))), ((ad 5), .inl (cI, 360, .inl (f 4))), ((ad 6), .inl (cI, 360, .inl (f 5))), ((ad 7), .inl (cI, 2, .inl (f 6))), ((ad 8), .inl (cI, 2, .inl (f 7))), ((ad 13), .inl (cI, 366, .inl ah)), ((ad 15), .inl (cI, 366, .inl bo)), ((ad 16), .inl (cI, 6, .inl u69))]) (wF := (fun uZ => (WM cI ad f ah uZ bo u69 T Dv C th mo))) (kX2_holds l D cI ad (ad 14) f T Dv C th mo bk2 Tn Dn Cn x3 (k) hC hI (by omega) (by omega) hbz) ⟨hx, hb, hml, hown, hts⟩ (cwV 2 hts gX2_backward_X2_holds rfl rfl rfl (by decide +kernel) ⟨Nat.le_of_ble_eq_true rfl, Nat.le_of_ble_eq_true rfl⟩) hK hP hD hS hA [0, 9, 10, 11, 12, 14] [1, 2, 3, 4, 5, 6, 7, 8, 13, 15, 16] [11, 0, 1, 2, 3, 4, 5, 6, 7, 12, 13, 14, 15, 8, 16, 9, 10] rfl (by decide) rfl (by decide) (by decide) (by decide) (fun _ => rfl) rfl rfl rfl rfl hl.1 rfl (Nat.le_of_ble_eq_true rfl) dX2_backward_280 ⟨Nat.zero_le _, Nat.zero_le _⟩ (fun r280 u280 H locs q280 hP hD hS => ?_)
        try dsimp only at q280
        have hP : va_P D vwCl (WM cI ad f ah u280 bo u69 T Dv C th mo) H := hP
        have hD : va_D A (WM cI ad f ah u280 bo u69 T Dv C th mo) := hD
        refine lv_istore_n (lv' := [(2, .int r280), (4, .int v75), (0, .ref (ad 0)), (3, .int x3)]) hx hb dX2_backward_283 rfl hl (by decide) rfl (fun ls hl => ?_)
        refine c_iinc (k := 3) hx hb (fun v284 => [(3, .int v284), (2, .int r280), (4, .int v75), (0, .ref (ad 0))]) dX2_backward_284 hl rfl (by decide) (by omega) (by decide) (fun _ => rfl) (fun v284 ls i284 hl => ?_)
        have hl : lv_has ls 5 [(3, .int v284), (2, .int r280), (4, .int v75), (0, .ref (ad 0))] := hl
        refine lv_goto (tgt := 62) hx hb dX2_backward_287 (by decide) ?_
        exact ih62 k v284 u280 u69 _ _ _ (by omega) (by omega) (by omega) (fun j h1 h2 => by
                rcases (show j = k ∨ k + 1 ≤ j by omega) with rfl | hj
                · have hT : Tt (rwM u280 j) (Bkv f Tn Dn Cn (Tn - j)) := by
                    rcases q280.1 with ⟨-, z⟩ | ⟨-, z⟩
                    · exact z.congr hstep
                    · obtain ⟨a, b, h⟩ := hsm (Tn - j) (by omega)
                      exact absurd ((hstep a b).mpr h) (z a b)
                  exact ⟨hT, Tt_bh (r := rwM bk2 j) hT (fun a b h => ⟨((hstep a b).mpr h).1, alw_0 _ (Bkv_alw h)⟩) hhi⟩
                · have ek : eq6 (rwM u280 j) (rwM bk1 j) := rwM_keep (fun i h3 h4 => (q280.2 i (by omega)).trans (Ubk2.2 i (by omega)))
                  obtain ⟨w1, w2⟩ := hdone j hj h2
                  exact ⟨w1.cg ek, bh_cg ek w2⟩) hP hD hS (lv_sub hl [3, 0] rfl)
  exact HL62 (Tn + 1) Tn v60 u51 mv _ _ _ (by omega) (by omega) (by omega) (fun j h1 h2 => by
        have ej : j = Tn := by omega
        subst ej
        rw [show j - j = 0 by omega]; exact ⟨hT0, bh_le hh0 (by omega)⟩) hP hD hS (lv_sub hl [3, 0] rfl)
