set_option maxHeartbeats 4000000 in
set_option maxRecDepth 100000 in
theorem kX2_work (l : Launch) (D : va_G) (cI : ClassId) (ad : Nat → Nat) (f : Nat → Nat → Int32) (ah : Nat → Int32) (bk : Nat → Int32) (bo : Nat → Int32) (mv : Nat → Int32) (T : Int32) (Dv : Int32) (C : Int32) (th : Int32) (mo : Int32) (Tn : Nat) (Dn : Nat) (Cn : Nat) (hT : T.toInt = (Tn : Int)) (hDv : Dv.toInt = (Dn : Int)) (hC : C.toInt = (Cn : Int)) (hI : Inv f Tn Dn Cn) : MI l yX2_work wsX2_work ({ frames := 5, cells := 0, slots := 0, locals := 112 } : Room) D [(cI, .int)] [.ref (ad 0)] (WM cI ad f ah bk bo mv T Dv C th mo) (fun u : (Nat → Int32) × (Nat → Int32) × (Nat → Int32) × (Nat → Int32) => (WM cI ad f u.1 u.2.1 u.2.2.1 u.2.2.2 T Dv C th 0)) (fun (r : Int32) (u : (Nat → Int32) × (Nat → Int32) × (Nat → Int32) × (Nat → Int32)) => WK f Tn Dn Cn r.toInt u.1 u.2.1 u.2.2.1) := by
  refine c_ent (cc := cX2_work) (maxL := 3) (ret := (some .boolean)) (Qc := fun A => va_Qi (fun (r : Int32) (u : (Nat → Int32) × (Nat → Int32) × (Nat → Int32) × (Nat → Int32)) => WK f Tn Dn Cn r.toInt u.1 u.2.1 u.2.2.1) (cB D [(cI, .int)] A (fun u : (Nat → Int32) × (Nat → Int32) × (Nat → Int32) × (Nat → Int32) => (WM cI ad f u.1 u.2.1 u.2.2.1 u.2.2.2 T Dv C th 0))) A) (by decide) rfl (Nat.le_of_ble_eq_true rfl) ?_
  intro p e s m below meth c A ls hx hb hr hlocks hts hown hml hK hP hD hA hl
  have hS : va_S A s.heap s.heap [] := va_S.rf
  have hl : lv_has ls 3 [(0, .ref (ad 0))] := hl
  have hP : va_P D vwCl (WM cI ad f ah bk bo mv T Dv C th mo) s.heap := hP
  have fl7 := hts (.fieldLink RX2 7 "DoorBenchModel" "ticks" "I") (by decide +kernel)
  have fl50 := hts (.fieldLink RX2 50 "DoorBenchModel" "ahead" "[I") (by decide +kernel)
  have fl53 := hts (.fieldLink RX2 53 "DoorBenchModel" "back" "[I") (by decide +kernel)
  have fl56 := hts (.fieldLink RX2 56 "DoorBenchModel" "both" "[I") (by decide +kernel)
  have fl79 := hts (.fieldLink RX2 79 "DoorBenchModel" "more" "I") (by decide +kernel)
  have inX2 : ∀ w ∈ wsX20, w ∈ wsX2_work := by decide +kernel
  obtain ⟨hI0, hId, hIr, hIs, hIc⟩ := id hI
  refine lv_aload_n hx hb dX2_work_0 rfl (lv_at hl 0 rfl) ?_
  refine c_iconst hx hb dX2_work_1 (by decide) (fun v1 i1 => ?_)
  obtain rfl : v1 = 0 := t_inj (by rw [i1]; rfl)
  refine c_put (D := D) (ci := 2) (C := RX2) (T := TX2) (N := 21) hx hb hts inX2 tyX2 tyX2_ok nmX2 hown hK hP hD hS 0 rfl rfl 20 (by decide) fl79 (fun _ h9 => h9) rfl (by decide +kernel) (Nat.le_of_ble_eq_true rfl) (WM cI ad f ah bk bo mv T Dv C th 0) rfl dX2_work_2 (fun H locs hP hD hS => ?_)
  refine lv_aload_n hx hb dX2_work_5 rfl (lv_at hl 0 rfl) ?_
  refine c_wvi (As := []) (ci := 2) (q0 := 0) (kX2_forward l D cI ad f ah bk bo mv T Dv C th 0 Tn Dn Cn hT hDv hC hI (by decide)) ⟨hx, hb, hml, hown, hts⟩ (cwV 0 hts gX2_work_X2_forward rfl rfl rfl (by decide +kernel) ⟨Nat.le_of_ble_eq_true rfl, Nat.le_of_ble_eq_true rfl⟩) hK hP hD hS hA rfl rfl rfl rfl hl.1 rfl (Nat.le_of_ble_eq_true rfl) dX2_work_6 ⟨Nat.zero_le _, Nat.zero_le _⟩ (fun r6 u6 H locs q6 hP hD hS => ?_)
  try dsimp only at q6
  have hP : va_P D vwCl (WM cI ad f u6.1 bk bo u6.2 T Dv C th 0) H := hP
  have hD : va_D A (WM cI ad f u6.1 bk bo u6.2 T Dv C th 0) := hD
  have q6 : LA f Tn Dn Cn 0 r6.toInt (fun j => rwM u6.1 j) := q6
  refine c_if_lt (tgt := 14) hx hb dX2_work_9 (by decide) (fun c9 => ?_) (fun c9 => ?_)
  · skip
    have hge := LA_ge q6
    have hrw := LA_rows q6 (by omega)
    have hF : ∃ a b, Fw f Dn Cn 0 Tn a b := (hrw Tn (Nat.le_refl _)).1.some
    have hFb : ∀ a b, Fw f Dn Cn 0 Tn a b → a + b ≤ 1000000 := by
      intro a b h
      obtain ⟨w1, w2⟩ := hrw Tn (Nat.le_refl _)
      have w3 := (w1.2 a b).mpr h
      unfold inR at w3; unfold bh at w2; omega
    refine lv_aload_n hx hb dX2_work_14 rfl (lv_at hl 0 rfl) ?_
    refine c_wvv (As := []) (ci := 2) (q0 := 0) (kX2_backward l D cI ad f u6.1 bk bo u6.2 T Dv C th 0 Tn Dn Cn hT hDv hC hI (by rfl) (by assumption) (by assumption)) ⟨hx, hb, hml, hown, hts⟩ (cwV 0 hts gX2_work_X2_backward rfl rfl rfl (by decide +kernel) ⟨Nat.le_of_ble_eq_true rfl, Nat.le_of_ble_eq_true rfl⟩) hK hP hD hS hA rfl rfl rfl rfl hl.1 rfl (Nat.le_of_ble_eq_true rfl) dX2_work_15 ⟨Nat.zero_le _, Nat.zero_le _⟩ (fun u15 H locs q15 hP hD hS => ?_)
    try dsimp only at q15
    have hP : va_P D vwCl (WM cI ad f u6.1 u15.1 bo u15.2 T Dv C th 0) H := hP
    have hD : va_D A (WM cI ad f u6.1 u15.1 bo u15.2 T Dv C th 0) := hD
    refine c_iconst hx hb dX2_work_18 (by decide) (fun v18 i18 => ?_)
    refine lv_istore_n (lv' := [(1, .int v18), (0, .ref (ad 0))]) hx hb dX2_work_19 rfl hl (by decide) rfl (fun ls hl => ?_)
    have HL20 : ∀ (n : Nat) (t : Nat) (x1 : Int32) (bo1 : Nat → Int32) (H : Heap) (locs : List Loc) (ls : Array Slot), (x1.toInt = (t : Int)) → (t ≤ Tn + 1) → (Tn + 2 ≤ t + n) → (∀ j, j < t → Tt (rwM bo1 j) (Trv f Tn Dn Cn (Tn - j))) → va_P D vwCl (WM cI ad f u6.1 u15.1 bo1 u15.2 T Dv C th 0) H → va_D A (WM cI ad f u6.1 u15.1 bo1 u15.2 T Dv C th 0) → va_S A s.heap H locs → lv_has ls 3 [(0, .ref (ad 0)), (1, .int x1)] → W p l e ({ frames := 5, cells := 0, slots := 0, locals := 112 } : Room) s m [.ref (ad 0)].toArray below meth c H locs 0 0 (MQ below (va_Qi (fun (r : Int32) (u : (Nat → Int32) × (Nat → Int32) × (Nat → Int32) × (Nat → Int32)) => WK f Tn Dn Cn r.toInt u.1 u.2.1 u.2.2.1) (cB D [(cI, .int)] A (fun u : (Nat → Int32) × (Nat → Int32) × (Nat → Int32) × (Nat → Int32) => (WM cI ad f u.1 u.2.1 u.2.2.1 u.2.2.2 T Dv C th 0))) A) [.ref (ad 0)].toArray s 0 0 A) (F0 m 20 ls []) := by
      intro n
      induction n with
      | zero => intro t x1 bo1 H locs ls hx1 ht hms hdo; exact absurd hms (by omega)
      | succ n ih20 =>
        intro t x1 bo1 H locs ls hx1 ht hms hdo hP hD hS hl
        refine lv_iload_n hx hb dX2_work_20 rfl (lv_at hl 1 rfl) ?_
        refine lv_aload_n hx hb dX2_work_21 rfl (lv_at hl 0 rfl) ?_
        refine va_get (D := D) (ci := 2) (v := .int T) (C := RX2) (T := TX2) (N := 21) hx hb hts inX2 hown hK hP 0 rfl rfl 0 (by decide) fl7 (fun _ h9 => h9) rfl dX2_work_22 ?_
        refine c_icmp_gt (tgt := 114) hx hb dX2_work_25 (by decide) (fun c25 => ?_) (fun c25 => ?_)
        · skip
          refine c_iconst hx hb dX2_work_114 (by decide) (fun v114 i114 => ?_)
          exact c_rz (u6.1, u15.1, bo1, u15.2) hx hb hr hlocks hK hP hD hS dX2_work_115 (by omega) (Or.inr ⟨by omega, fun j hj => ⟨hrw j hj, q15 j hj, hdo j (by omega)⟩⟩)
        · skip
          refine c_bipush hx hb dX2_work_28 (by decide) (fun v28 i28 => ?_)
          refine lv_iload_n hx hb dX2_work_30 rfl (lv_at hl 1 rfl) ?_
          refine c_imul (a := 6) (b := x1.toInt) hx hb dX2_work_31 (by omega) rfl (by omega) (fun v31 i31 => ?_)
          refine lv_istore_n (lv' := [(2, .int v31), (0, .ref (ad 0)), (1, .int x1)]) hx hb dX2_work_32 rfl hl (by decide) rfl (fun ls hl => ?_)
          refine lv_iload_n hx hb dX2_work_33 rfl (lv_at hl 0 rfl) ?_
          refine c_bipush hx hb dX2_work_34 (by decide) (fun v34 i34 => ?_)
          refine lv_iload_n hx hb dX2_work_36 rfl (lv_at hl 2 rfl) ?_
          refine c_imul (a := 6) (b := x1.toInt) hx hb dX2_work_37 (by omega) rfl (by omega) (fun v37 i37 => ?_)
          refine c_bipush hx hb dX2_work_38 (by decide) (fun v38 i38 => ?_)
          refine c_iadd hx hb dX2_work_40 (by omega) (fun v40 i40 => ?_)
          refine c_icmp_ge (tgt := 95) hx hb dX2_work_41 (by decide) (fun c41 => absurd c41 (by omega)) (fun c41 => ?_)
          refine lv_aload_n hx hb dX2_work_44 rfl (lv_at hl 1 rfl) ?_
          refine va_get (D := D) (ci := 2) (v := .ref (ad 15)) (C := RX2) (T := TX2) (N := 21) hx hb hts inX2 hown hK hP 0 rfl rfl 18 (by decide) fl56 (fun _ h9 => h9) rfl dX2_work_45 ?_
          refine lv_iload_n hx hb dX2_work_48 rfl (lv_at hl 0 rfl) ?_
          refine lv_iload_n hx hb dX2_work_49 rfl (lv_at hl 0 rfl) ?_
          refine c_iconst hx hb dX2_work_50 (by decide) (fun v50 i50 => ?_)
          refine c_irem (a := 6 * t) (b := 2) hx hb dX2_work_51 (by omega) (by omega) (by omega) (by omega) (fun v51 i51 => ?_)
          refine c_if_ne (tgt := 73) hx hb dX2_work_52 (by decide) (fun c52 => absurd c52 (by omega)) (fun c52 => ?_)
          refine lv_aload_n hx hb dX2_work_55 rfl (lv_at hl 1 rfl) ?_
          refine va_get (D := D) (ci := 2) (v := .ref (ad 13)) (C := RX2) (T := TX2) (N := 21) hx hb hts inX2 hown hK hP 0 rfl rfl 16 (by decide) fl50 (fun _ h9 => h9) rfl dX2_work_56 ?_
          refine lv_iload_n hx hb dX2_work_59 rfl (lv_at hl 0 rfl) ?_
          refine c_iald hx hb hK hP 13 0 rfl rfl (6 * t) (by omega) (by omega) dX2_work_60 (fun v60 e60 => ?_)
          have i60 : v60.toInt = (u6.1 (6 * t)).toInt := by rw [e60]
          refine lv_aload_n hx hb dX2_work_61 rfl (lv_at hl 1 rfl) ?_
          refine va_get (D := D) (ci := 2) (v := .ref (ad 14)) (C := RX2) (T := TX2) (N := 21) hx hb hts inX2 hown hK hP 0 rfl rfl 17 (by decide) fl53 (fun _ h9 => h9) rfl dX2_work_62 ?_
          refine lv_iload_n hx hb dX2_work_65 rfl (lv_at hl 0 rfl) ?_
          refine c_iald hx hb hK hP 14 0 rfl rfl (6 * t) (by omega) (by omega) dX2_work_66 (fun v66 e66 => ?_)
          have i66 : v66.toInt = (u15.1 (6 * t)).toInt := by rw [e66]
          refine c_cpi (As := [.int v60, .int v66]) (kX2_greater l D cI v60 v66) ⟨hx, hb, hml, hown, hts⟩ (va_cwS 2 hts gX2_work_X2_greater rfl rfl rfl (by decide +kernel) ⟨Nat.le_of_ble_eq_true rfl, Nat.le_of_ble_eq_true rfl⟩) hK hP hS hA rfl hl.1 rfl (Nat.le_of_ble_eq_true rfl) dX2_work_67 ⟨Nat.zero_le _, Nat.zero_le _⟩ (fun r67 H locs q67 hP hS => ?_)
          try dsimp only at q67
          refine lv_goto (tgt := 88) hx hb dX2_work_70 (by decide) ?_
          refine c_iast hx hb hK hP hD hS 15 0 rfl rfl (6 * t) (by omega) (by omega) (WM cI ad f u6.1 u15.1 (upd bo1 (6 * t) r67) u15.2 T Dv C th 0) rfl dX2_work_88 (fun H locs hP hD hS => ?_)
          refine c_iinc (k := 0) hx hb (fun v89 => [(2, .int v89), (0, .ref (ad 0)), (1, .int x1)]) dX2_work_89 hl rfl (by decide) (by omega) (by decide) (fun _ => rfl) (fun v89 ls i89 hl => ?_)
          have hl : lv_has ls 3 [(2, .int v89), (0, .ref (ad 0)), (1, .int x1)] := hl
          refine lv_goto (tgt := 33) hx hb dX2_work_92 (by decide) ?_
          refine lv_iload_n hx hb dX2_work_33 rfl (lv_at hl 0 rfl) ?_
          refine c_bipush hx hb dX2_work_34 (by decide) (fun v34_2 i34_2 => ?_)
          refine lv_iload_n hx hb dX2_work_36 rfl (lv_at hl 2 rfl) ?_
          refine c_imul (a := 6) (b := x1.toInt) hx hb dX2_work_37 (by omega) rfl (by omega) (fun v37_2 i37_2 => ?_)
          refine c_bipush hx hb dX2_work_38 (by decide) (fun v38_2 i38_2 => ?_)
          refine c_iadd hx hb dX2_work_40 (by omega) (fun v40_2 i40_2 => ?_)
          refine c_icmp_ge (tgt := 95) hx hb dX2_work_41 (by decide) (fun c41_2 => absurd c41_2 (by omega)) (fun c41_2 => ?_)
          refine lv_aload_n hx hb dX2_work_44 rfl (lv_at hl 1 rfl) ?_
          refine va_get (D := D) (ci := 2) (v := .ref (ad 15)) (C := RX2) (T := TX2) (N := 21) hx hb hts inX2 hown hK hP 0 rfl rfl 18 (by decide) fl56 (fun _ h9 => h9) rfl dX2_work_45 ?_
          refine lv_iload_n hx hb dX2_work_48 rfl (lv_at hl 0 rfl) ?_
          refine lv_iload_n hx hb dX2_work_49 rfl (lv_at hl 0 rfl) ?_
          refine c_iconst hx hb dX2_work_50 (by decide) (fun v50_2 i50_2 => ?_)
          refine c_irem (a := 6 * t + 1) (b := 2) hx hb dX2_work_51 (by omega) (by omega) (by omega) (by omega) (fun v51_2 i51_2 => ?_)
          refine c_if_ne (tgt := 73) hx hb dX2_work_52 (by decide) (fun c52_2 => ?_) (fun c52_2 => absurd c52_2 (by omega))
          refine lv_aload_n hx hb dX2_work_73 rfl (lv_at hl 1 rfl) ?_
          refine va_get (D := D) (ci := 2) (v := .ref (ad 13)) (C := RX2) (T := TX2) (N := 21) hx hb hts inX2 hown hK hP 0 rfl rfl 16 (by decide) fl50 (fun _ h9 => h9) rfl dX2_work_74 ?_
          refine lv_iload_n hx hb dX2_work_77 rfl (lv_at hl 0 rfl) ?_
          refine c_iald hx hb hK hP 13 0 rfl rfl (6 * t + 1) (by omega) (by omega) dX2_work_78 (fun v78 e78 => ?_)
          have i78 : v78.toInt = (u6.1 (6 * t + 1)).toInt := by rw [e78]
          refine lv_aload_n hx hb dX2_work_79 rfl (lv_at hl 1 rfl) ?_
          refine va_get (D := D) (ci := 2) (v := .ref (ad 14)) (C := RX2) (T := TX2) (N := 21) hx hb hts inX2 hown hK hP 0 rfl rfl 17 (by decide) fl53 (fun _ h9 => h9) rfl dX2_work_80 ?_
          refine lv_iload_n hx hb dX2_work_83 rfl (lv_at hl 0 rfl) ?_
          refine c_iald hx hb hK hP 14 0 rfl rfl (6 * t + 1) (by omega) (by omega) dX2_work_84 (fun v84 e84 => ?_)
          have i84 : v84.toInt = (u15.1 (6 * t + 1)).toInt := by rw [e84]
          refine c_cpi (As := [.int v78, .int v84]) (kX2_lesser l D cI v78 v84) ⟨hx, hb, hml, hown, hts⟩ (va_cwS 2 hts gX2_work_X2_lesser rfl rfl rfl (by decide +kernel) ⟨Nat.le_of_ble_eq_true rfl, Nat.le_of_ble_eq_true rfl⟩) hK hP hS hA rfl hl.1 rfl (Nat.le_of_ble_eq_true rfl) dX2_work_85 ⟨Nat.zero_le _, Nat.zero_le _⟩ (fun r85 H locs q85 hP hS => ?_)
          try dsimp only at q85
          refine c_iast hx hb hK hP hD hS 15 0 rfl rfl (6 * t + 1) (by omega) (by omega) (WM cI ad f u6.1 u15.1 (upd (upd bo1 (6 * t) r67) (6 * t + 1) r85) u15.2 T Dv C th 0) rfl dX2_work_88 (fun H locs hP hD hS => ?_)
          refine c_iinc (k := 0) hx hb (fun v89_2 => [(2, .int v89_2), (0, .ref (ad 0)), (1, .int x1)]) dX2_work_89 hl rfl (by decide) (by omega) (by decide) (fun _ => rfl) (fun v89_2 ls i89_2 hl => ?_)
          have hl : lv_has ls 3 [(2, .int v89_2), (0, .ref (ad 0)), (1, .int x1)] := hl
          refine lv_goto (tgt := 33) hx hb dX2_work_92 (by decide) ?_
          refine lv_iload_n hx hb dX2_work_33 rfl (lv_at hl 0 rfl) ?_
          refine c_bipush hx hb dX2_work_34 (by decide) (fun v34_3 i34_3 => ?_)
          refine lv_iload_n hx hb dX2_work_36 rfl (lv_at hl 2 rfl) ?_
          refine c_imul (a := 6) (b := x1.toInt) hx hb dX2_work_37 (by omega) rfl (by omega) (fun v37_3 i37_3 => ?_)
          refine c_bipush hx hb dX2_work_38 (by decide) (fun v38_3 i38_3 => ?_)
          refine c_iadd hx hb dX2_work_40 (by omega) (fun v40_3 i40_3 => ?_)
          refine c_icmp_ge (tgt := 95) hx hb dX2_work_41 (by decide) (fun c41_3 => absurd c41_3 (by omega)) (fun c41_3 => ?_)
          refine lv_aload_n hx hb dX2_work_44 rfl (lv_at hl 1 rfl) ?_
          refine va_get (D := D) (ci := 2) (v := .ref (ad 15)) (C := RX2) (T := TX2) (N := 21) hx hb hts inX2 hown hK hP 0 rfl rfl 18 (by decide) fl56 (fun _ h9 => h9) rfl dX2_work_45 ?_
          refine lv_iload_n hx hb dX2_work_48 rfl (lv_at hl 0 rfl) ?_
          refine lv_iload_n hx hb dX2_work_49 rfl (lv_at hl 0 rfl) ?_
          refine c_iconst hx hb dX2_work_50 (by decide) (fun v50_3 i50_3 => ?_)
          refine c_irem (a := 6 * t + 2) (b := 2) hx hb dX2_work_51 (by omega) (by omega) (by omega) (by omega) (fun v51_3 i51_3 => ?_)
          refine c_if_ne (tgt := 73) hx hb dX2_work_52 (by decide) (fun c52_3 => absurd c52_3 (by omega)) (fun c52_3 => ?_)
          refine lv_aload_n hx hb dX2_work_55 rfl (lv_at hl 1 rfl) ?_
          refine va_get (D := D) (ci := 2) (v := .ref (ad 13)) (C := RX2) (T := TX2) (N := 21) hx hb hts inX2 hown hK hP 0 rfl rfl 16 (by decide) fl50 (fun _ h9 => h9) rfl dX2_work_56 ?_
          refine lv_iload_n hx hb dX2_work_59 rfl (lv_at hl 0 rfl) ?_
          refine c_iald hx hb hK hP 13 0 rfl rfl (6 * t + 2) (by omega) (by omega) dX2_work_60 (fun v60_2 e60_2 => ?_)
          have i60_2 : v60_2.toInt = (u6.1 (6 * t + 2)).toInt := by rw [e60_2]
          refine lv_aload_n hx hb dX2_work_61 rfl (lv_at hl 1 rfl) ?_
          refine va_get (D := D) (ci := 2) (v := .ref (ad 14)) (C := RX2) (T := TX2) (N := 21) hx hb hts inX2 hown hK hP 0 rfl rfl 17 (by decide) fl53 (fun _ h9 => h9) rfl dX2_work_62 ?_
          refine lv_iload_n hx hb dX2_work_65 rfl (lv_at hl 0 rfl) ?_
          refine c_iald hx hb hK hP 14 0 rfl rfl (6 * t + 2) (by omega) (by omega) dX2_work_66 (fun v66_2 e66_2 => ?_)
          have i66_2 : v66_2.toInt = (u15.1 (6 * t + 2)).toInt := by rw [e66_2]
          refine c_cpi (As := [.int v60_2, .int v66_2]) (kX2_greater l D cI v60_2 v66_2) ⟨hx, hb, hml, hown, hts⟩ (va_cwS 2 hts gX2_work_X2_greater rfl rfl rfl (by decide +kernel) ⟨Nat.le_of_ble_eq_true rfl, Nat.le_of_ble_eq_true rfl⟩) hK hP hS hA rfl hl.1 rfl (Nat.le_of_ble_eq_true rfl) dX2_work_67 ⟨Nat.zero_le _, Nat.zero_le _⟩ (fun r67_2 H locs q67_2 hP hS => ?_)
          try dsimp only at q67_2
          refine lv_goto (tgt := 88) hx hb dX2_work_70 (by decide) ?_
          refine c_iast hx hb hK hP hD hS 15 0 rfl rfl (6 * t + 2) (by omega) (by omega) (WM cI ad f u6.1 u15.1 (upd (upd (upd bo1 (6 * t) r67) (6 * t + 1) r85) (6 * t + 2) r67_2) u15.2 T Dv C th 0) rfl dX2_work_88 (fun H locs hP hD hS => ?_)
          refine c_iinc (k := 0) hx hb (fun v89_3 => [(2, .int v89_3), (0, .ref (ad 0)), (1, .int x1)]) dX2_work_89 hl rfl (by decide) (by omega) (by decide) (fun _ => rfl) (fun v89_3 ls i89_3 hl => ?_)
          have hl : lv_has ls 3 [(2, .int v89_3), (0, .ref (ad 0)), (1, .int x1)] := hl
          refine lv_goto (tgt := 33) hx hb dX2_work_92 (by decide) ?_
          refine lv_iload_n hx hb dX2_work_33 rfl (lv_at hl 0 rfl) ?_
          refine c_bipush hx hb dX2_work_34 (by decide) (fun v34_4 i34_4 => ?_)
          refine lv_iload_n hx hb dX2_work_36 rfl (lv_at hl 2 rfl) ?_
          refine c_imul (a := 6) (b := x1.toInt) hx hb dX2_work_37 (by omega) rfl (by omega) (fun v37_4 i37_4 => ?_)
          refine c_bipush hx hb dX2_work_38 (by decide) (fun v38_4 i38_4 => ?_)
          refine c_iadd hx hb dX2_work_40 (by omega) (fun v40_4 i40_4 => ?_)
          refine c_icmp_ge (tgt := 95) hx hb dX2_work_41 (by decide) (fun c41_4 => absurd c41_4 (by omega)) (fun c41_4 => ?_)
          refine lv_aload_n hx hb dX2_work_44 rfl (lv_at hl 1 rfl) ?_
          refine va_get (D := D) (ci := 2) (v := .ref (ad 15)) (C := RX2) (T := TX2) (N := 21) hx hb hts inX2 hown hK hP 0 rfl rfl 18 (by decide) fl56 (fun _ h9 => h9) rfl dX2_work_45 ?_
          refine lv_iload_n hx hb dX2_work_48 rfl (lv_at hl 0 rfl) ?_
          refine lv_iload_n hx hb dX2_work_49 rfl (lv_at hl 0 rfl) ?_
          refine c_iconst hx hb dX2_work_50 (by decide) (fun v50_4 i50_4 => ?_)
          refine c_irem (a := 6 * t + 3) (b := 2) hx hb dX2_work_51 (by omega) (by omega) (by omega) (by omega) (fun v51_4 i51_4 => ?_)
          refine c_if_ne (tgt := 73) hx hb dX2_work_52 (by decide) (fun c52_4 => ?_) (fun c52_4 => absurd c52_4 (by omega))
          refine lv_aload_n hx hb dX2_work_73 rfl (lv_at hl 1 rfl) ?_
          refine va_get (D := D) (ci := 2) (v := .ref (ad 13)) (C := RX2) (T := TX2) (N := 21) hx hb hts inX2 hown hK hP 0 rfl rfl 16 (by decide) fl50 (fun _ h9 => h9) rfl dX2_work_74 ?_
          refine lv_iload_n hx hb dX2_work_77 rfl (lv_at hl 0 rfl) ?_
          refine c_iald hx hb hK hP 13 0 rfl rfl (6 * t + 3) (by omega) (by omega) dX2_work_78 (fun v78_2 e78_2 => ?_)
          have i78_2 : v78_2.toInt = (u6.1 (6 * t + 3)).toInt := by rw [e78_2]
          refine lv_aload_n hx hb dX2_work_79 rfl (lv_at hl 1 rfl) ?_
          refine va_get (D := D) (ci := 2) (v := .ref (ad 14)) (C := RX2) (T := TX2) (N := 21) hx hb hts inX2 hown hK hP 0 rfl rfl 17 (by decide) fl53 (fun _ h9 => h9) rfl dX2_work_80 ?_
          refine lv_iload_n hx hb dX2_work_83 rfl (lv_at hl 0 rfl) ?_
          refine c_iald hx hb hK hP 14 0 rfl rfl (6 * t + 3) (by omega) (by omega) dX2_work_84 (fun v84_2 e84_2 => ?_)
          have i84_2 : v84_2.toInt = (u15.1 (6 * t + 3)).toInt := by rw [e84_2]
          refine c_cpi (As := [.int v78_2, .int v84_2]) (kX2_lesser l D cI v78_2 v84_2) ⟨hx, hb, hml, hown, hts⟩ (va_cwS 2 hts gX2_work_X2_lesser rfl rfl rfl (by decide +kernel) ⟨Nat.le_of_ble_eq_true rfl, Nat.le_of_ble_eq_true rfl⟩) hK hP hS hA rfl hl.1 rfl (Nat.le_of_ble_eq_true rfl) dX2_work_85 ⟨Nat.zero_le _, Nat.zero_le _⟩ (fun r85_2 H locs q85_2 hP hS => ?_)
          try dsimp only at q85_2
          refine c_iast hx hb hK hP hD hS 15 0 rfl rfl (6 * t + 3) (by omega) (by omega) (WM cI ad f u6.1 u15.1 (upd (upd (upd (upd bo1 (6 * t) r67) (6 * t + 1) r85) (6 * t + 2) r67_2) (6 * t + 3) r85_2) u15.2 T Dv C th 0) rfl dX2_work_88 (fun H locs hP hD hS => ?_)
          refine c_iinc (k := 0) hx hb (fun v89_4 => [(2, .int v89_4), (0, .ref (ad 0)), (1, .int x1)]) dX2_work_89 hl rfl (by decide) (by omega) (by decide) (fun _ => rfl) (fun v89_4 ls i89_4 hl => ?_)
          have hl : lv_has ls 3 [(2, .int v89_4), (0, .ref (ad 0)), (1, .int x1)] := hl
          refine lv_goto (tgt := 33) hx hb dX2_work_92 (by decide) ?_
          refine lv_iload_n hx hb dX2_work_33 rfl (lv_at hl 0 rfl) ?_
          refine c_bipush hx hb dX2_work_34 (by decide) (fun v34_5 i34_5 => ?_)
          refine lv_iload_n hx hb dX2_work_36 rfl (lv_at hl 2 rfl) ?_
          refine c_imul (a := 6) (b := x1.toInt) hx hb dX2_work_37 (by omega) rfl (by omega) (fun v37_5 i37_5 => ?_)
          refine c_bipush hx hb dX2_work_38 (by decide) (fun v38_5 i38_5 => ?_)
          refine c_iadd hx hb dX2_work_40 (by omega) (fun v40_5 i40_5 => ?_)
          refine c_icmp_ge (tgt := 95) hx hb dX2_work_41 (by decide) (fun c41_5 => absurd c41_5 (by omega)) (fun c41_5 => ?_)
          refine lv_aload_n hx hb dX2_work_44 rfl (lv_at hl 1 rfl) ?_
          refine va_get (D := D) (ci := 2) (v := .ref (ad 15)) (C := RX2) (T := TX2) (N := 21) hx hb hts inX2 hown hK hP 0 rfl rfl 18 (by decide) fl56 (fun _ h9 => h9) rfl dX2_work_45 ?_
          refine lv_iload_n hx hb dX2_work_48 rfl (lv_at hl 0 rfl) ?_
          refine lv_iload_n hx hb dX2_work_49 rfl (lv_at hl 0 rfl) ?_
          refine c_iconst hx hb dX2_work_50 (by decide) (fun v50_5 i50_5 => ?_)
          refine c_irem (a := 6 * t + 4) (b := 2) hx hb dX2_work_51 (by omega) (by omega) (by omega) (by omega) (fun v51_5 i51_5 => ?_)
          refine c_if_ne (tgt := 73) hx hb dX2_work_52 (by decide) (fun c52_5 => absurd c52_5 (by omega)) (fun c52_5 => ?_)
          refine lv_aload_n hx hb dX2_work_55 rfl (lv_at hl 1 rfl) ?_
          refine va_get (D := D) (ci := 2) (v := .ref (ad 13)) (C := RX2) (T := TX2) (N := 21) hx hb hts inX2 hown hK hP 0 rfl rfl 16 (by decide) fl50 (fun _ h9 => h9) rfl dX2_work_56 ?_
          refine lv_iload_n hx hb dX2_work_59 rfl (lv_at hl 0 rfl) ?_
          refine c_iald hx hb hK hP 13 0 rfl rfl (6 * t + 4) (by omega) (by omega) dX2_work_60 (fun v60_3 e60_3 => ?_)
          have i60_3 : v60_3.toInt = (u6.1 (6 * t + 4)).toInt := by rw [e60_3]
          refine lv_aload_n hx hb dX2_work_61 rfl (lv_at hl 1 rfl) ?_
          refine va_get (D := D) (ci := 2) (v := .ref (ad 14)) (C := RX2) (T := TX2) (N := 21) hx hb hts inX2 hown hK hP 0 rfl rfl 17 (by decide) fl53 (fun _ h9 => h9) rfl dX2_work_62 ?_
          refine lv_iload_n hx hb dX2_work_65 rfl (lv_at hl 0 rfl) ?_
          refine c_iald hx hb hK hP 14 0 rfl rfl (6 * t + 4) (by omega) (by omega) dX2_work_66 (fun v66_3 e66_3 => ?_)
          have i66_3 : v66_3.toInt = (u15.1 (6 * t + 4)).toInt := by rw [e66_3]
          refine c_cpi (As := [.int v60_3, .int v66_3]) (kX2_greater l D cI v60_3 v66_3) ⟨hx, hb, hml, hown, hts⟩ (va_cwS 2 hts gX2_work_X2_greater rfl rfl rfl (by decide +kernel) ⟨Nat.le_of_ble_eq_true rfl, Nat.le_of_ble_eq_true rfl⟩) hK hP hS hA rfl hl.1 rfl (Nat.le_of_ble_eq_true rfl) dX2_work_67 ⟨Nat.zero_le _, Nat.zero_le _⟩ (fun r67_3 H locs q67_3 hP hS => ?_)
          try dsimp only at q67_3
          refine lv_goto (tgt := 88) hx hb dX2_work_70 (by decide) ?_
          refine c_iast hx hb hK hP hD hS 15 0 rfl rfl (6 * t + 4) (by omega) (by omega) (WM cI ad f u6.1 u15.1 (upd (upd (upd (upd (upd bo1 (6 * t) r67) (6 * t + 1) r85) (6 * t + 2) r67_2) (6 * t + 3) r85_2) (6 * t + 4) r67_3) u15.2 T Dv C th 0) rfl dX2_work_88 (fun H locs hP hD hS => ?_)
          refine c_iinc (k := 0) hx hb (fun v89_5 => [(2, .int v89_5), (0, .ref (ad 0)), (1, .int x1)]) dX2_work_89 hl rfl (by decide) (by omega) (by decide) (fun _ => rfl) (fun v89_5 ls i89_5 hl => ?_)
          have hl : lv_has ls 3 [(2, .int v89_5), (0, .ref (ad 0)), (1, .int x1)] := hl
          refine lv_goto (tgt := 33) hx hb dX2_work_92 (by decide) ?_
          refine lv_iload_n hx hb dX2_work_33 rfl (lv_at hl 0 rfl) ?_
          refine c_bipush hx hb dX2_work_34 (by decide) (fun v34_6 i34_6 => ?_)
          refine lv_iload_n hx hb dX2_work_36 rfl (lv_at hl 2 rfl) ?_
          refine c_imul (a := 6) (b := x1.toInt) hx hb dX2_work_37 (by omega) rfl (by omega) (fun v37_6 i37_6 => ?_)
          refine c_bipush hx hb dX2_work_38 (by decide) (fun v38_6 i38_6 => ?_)
          refine c_iadd hx hb dX2_work_40 (by omega) (fun v40_6 i40_6 => ?_)
          refine c_icmp_ge (tgt := 95) hx hb dX2_work_41 (by decide) (fun c41_6 => absurd c41_6 (by omega)) (fun c41_6 => ?_)
          refine lv_aload_n hx hb dX2_work_44 rfl (lv_at hl 1 rfl) ?_
          refine va_get (D := D) (ci := 2) (v := .ref (ad 15)) (C := RX2) (T := TX2) (N := 21) hx hb hts inX2 hown hK hP 0 rfl rfl 18 (by decide) fl56 (fun _ h9 => h9) rfl dX2_work_45 ?_
          refine lv_iload_n hx hb dX2_work_48 rfl (lv_at hl 0 rfl) ?_
          refine lv_iload_n hx hb dX2_work_49 rfl (lv_at hl 0 rfl) ?_
          refine c_iconst hx hb dX2_work_50 (by decide) (fun v50_6 i50_6 => ?_)
          refine c_irem (a := 6 * t + 5) (b := 2) hx hb dX2_work_51 (by omega) (by omega) (by omega) (by omega) (fun v51_6 i51_6 => ?_)
          refine c_if_ne (tgt := 73) hx hb dX2_work_52 (by decide) (fun c52_6 => ?_) (fun c52_6 => absurd c52_6 (by omega))
          refine lv_aload_n hx hb dX2_work_73 rfl (lv_at hl 1 rfl) ?_
          refine va_get (D := D) (ci := 2) (v := .ref (ad 13)) (C := RX2) (T := TX2) (N := 21) hx hb hts inX2 hown hK hP 0 rfl rfl 16 (by decide) fl50 (fun _ h9 => h9) rfl dX2_work_74 ?_
          refine lv_iload_n hx hb dX2_work_77 rfl (lv_at hl 0 rfl) ?_
          refine c_iald hx hb hK hP 13 0 rfl rfl (6 * t + 5) (by omega) (by omega) dX2_work_78 (fun v78_3 e78_3 => ?_)
          have i78_3 : v78_3.toInt = (u6.1 (6 * t + 5)).toInt := by rw [e78_3]
          refine lv_aload_n hx hb dX2_work_79 rfl (lv_at hl 1 rfl) ?_
          refine va_get (D := D) (ci := 2) (v := .ref (ad 14)) (C := RX2) (T := TX2) (N := 21) hx hb hts inX2 hown hK hP 0 rfl rfl 17 (by decide) fl53 (fun _ h9 => h9) rfl dX2_work_80 ?_
          refine lv_iload_n hx hb dX2_work_83 rfl (lv_at hl 0 rfl) ?_
          refine c_iald hx hb hK hP 14 0 rfl rfl (6 * t + 5) (by omega) (by omega) dX2_work_84 (fun v84_3 e84_3 => ?_)
          have i84_3 : v84_3.toInt = (u15.1 (6 * t + 5)).toInt := by rw [e84_3]
          refine c_cpi (As := [.int v78_3, .int v84_3]) (kX2_lesser l D cI v78_3 v84_3) ⟨hx, hb, hml, hown, hts⟩ (va_cwS 2 hts gX2_work_X2_lesser rfl rfl rfl (by decide +kernel) ⟨Nat.le_of_ble_eq_true rfl, Nat.le_of_ble_eq_true rfl⟩) hK hP hS hA rfl hl.1 rfl (Nat.le_of_ble_eq_true rfl) dX2_work_85 ⟨Nat.zero_le _, Nat.zero_le _⟩ (fun r85_3 H locs q85_3 hP hS => ?_)
          try dsimp only at q85_3
          refine c_iast hx hb hK hP hD hS 15 0 rfl rfl (6 * t + 5) (by omega) (by omega) (WM cI ad f u6.1 u15.1 (upd (upd (upd (upd (upd (upd bo1 (6 * t) r67) (6 * t + 1) r85) (6 * t + 2) r67_2) (6 * t + 3) r85_2) (6 * t + 4) r67_3) (6 * t + 5) r85_3) u15.2 T Dv C th 0) rfl dX2_work_88 (fun H locs hP hD hS => ?_)
          refine c_iinc (k := 0) hx hb (fun v89_6 => [(2, .int v89_6), (0, .ref (ad 0)), (1, .int x1)]) dX2_work_89 hl rfl (by decide) (by omega) (by decide) (fun _ => rfl) (fun v89_6 ls i89_6 hl => ?_)
          have hl : lv_has ls 3 [(2, .int v89_6), (0, .ref (ad 0)), (1, .int x1)] := hl
          refine lv_goto (tgt := 33) hx hb dX2_work_92 (by decide) ?_
          refine lv_iload_n hx hb dX2_work_33 rfl (lv_at hl 0 rfl) ?_
          refine c_bipush hx hb dX2_work_34 (by decide) (fun v34_7 i34_7 => ?_)
          refine lv_iload_n hx hb dX2_work_36 rfl (lv_at hl 2 rfl) ?_
          refine c_imul (a := 6) (b := x1.toInt) hx hb dX2_work_37 (by omega) rfl (by omega) (fun v37_7 i37_7 => ?_)
          refine c_bipush hx hb dX2_work_38 (by decide) (fun v38_7 i38_7 => ?_)
          refine c_iadd hx hb dX2_work_40 (by omega) (fun v40_7 i40_7 => ?_)
          refine c_icmp_ge (tgt := 95) hx hb dX2_work_41 (by decide) (fun c41_7 => ?_) (fun c41_7 => absurd c41_7 (by omega))
          have Ubo2 := up6 (s := bo1) (6 * t) (x0 := r67) (x1 := r85) (x2 := r67_2) (x3 := r85_2) (x4 := r67_3) (x5 := r85_3) (show 6 * t = 6 * t by omega) (show 6 * t + 1 = 6 * t + 1 by omega) (show 6 * t + 2 = 6 * t + 2 by omega) (show 6 * t + 3 = 6 * t + 3 by omega) (show 6 * t + 4 = 6 * t + 4 by omega) (show 6 * t + 5 = 6 * t + 5 by omega)
          obtain ⟨bo2, ebo2⟩ : ∃ z, z = (upd (upd (upd (upd (upd (upd bo1 (6 * t) r67) (6 * t + 1) r85) (6 * t + 2) r67_2) (6 * t + 3) r85_2) (6 * t + 4) r67_3) (6 * t + 5) r85_3) := ⟨_, rfl⟩
          rw [← ebo2] at hP hD Ubo2
          have bo2e0 : rwM bo2 t 0 = r67.toInt := congrArg Int32.toInt Ubo2.1.1
          have bo2e1 : rwM bo2 t 1 = r85.toInt := congrArg Int32.toInt Ubo2.1.2.1
          have bo2e2 : rwM bo2 t 2 = r67_2.toInt := congrArg Int32.toInt Ubo2.1.2.2.1
          have bo2e3 : rwM bo2 t 3 = r85_2.toInt := congrArg Int32.toInt Ubo2.1.2.2.2.1
          have bo2e4 : rwM bo2 t 4 = r67_3.toInt := congrArg Int32.toInt Ubo2.1.2.2.2.2.1
          have bo2e5 : rwM bo2 t 5 = r85_3.toInt := congrArg Int32.toInt Ubo2.1.2.2.2.2.2
          have g0 : rwM bo2 t 0 = max (rwM u6.1 t 0) (rwM u15.1 t 0) := by
            have mm : r67.toInt = max _ _ := q67
            rw [bo2e0, mm, i60, i66]; rfl
          have g2 : rwM bo2 t 2 = max (rwM u6.1 t 2) (rwM u15.1 t 2) := by
            have mm : r67_2.toInt = max _ _ := q67_2
            rw [bo2e2, mm, i60_2, i66_2]; rfl
          have g4 : rwM bo2 t 4 = max (rwM u6.1 t 4) (rwM u15.1 t 4) := by
            have mm : r67_3.toInt = max _ _ := q67_3
            rw [bo2e4, mm, i60_3, i66_3]; rfl
          have g1 : rwM bo2 t 1 = min (rwM u6.1 t 1) (rwM u15.1 t 1) := by
            have mm : r85.toInt = min _ _ := q85
            rw [bo2e1, mm, i78, i84]; rfl
          have g3 : rwM bo2 t 3 = min (rwM u6.1 t 3) (rwM u15.1 t 3) := by
            have mm : r85_2.toInt = min _ _ := q85_2
            rw [bo2e3, mm, i78_2, i84_2]; rfl
          have g5 : rwM bo2 t 5 = min (rwM u6.1 t 5) (rwM u15.1 t 5) := by
            have mm : r85_3.toInt = min _ _ := q85_3
            rw [bo2e5, mm, i78_3, i84_3]; rfl
          obtain ⟨hTa, hba⟩ := hrw t (by omega)
          obtain ⟨hTb, hbb⟩ := q15 t (by omega)
          have hbz : bd (rwM bo2 t) 2000000 := by
            unfold bh at hba hbb; unfold bd
            rw [g0, g1, g2, g3, g4, g5]
            refine ⟨?_, ?_, ?_, ?_, ?_, ?_⟩ <;> omega
          have hs : ∀ a b, inR (rwM bo2 t) a b ↔ Trv f Tn Dn Cn (Tn - t) a b := by
            intro a b
            rw [Trv_eq hFb (Tn - t) (by omega) a b, show Tn - (Tn - t) = t by omega, ← hTa.2 a b, ← hTb.2 a b]
            unfold inR
            rw [g0, g1, g2, g3, g4, g5]
            omega
          refine lv_aload_n hx hb dX2_work_95 rfl (lv_at hl 1 rfl) ?_
          refine lv_aload_n hx hb dX2_work_96 rfl (lv_at hl 1 rfl) ?_
          refine va_get (D := D) (ci := 2) (v := .ref (ad 15)) (C := RX2) (T := TX2) (N := 21) hx hb hts inX2 hown hK hP 0 rfl rfl 18 (by decide) fl56 (fun _ h9 => h9) rfl dX2_work_97 ?_
          refine c_bipush hx hb dX2_work_100 (by decide) (fun v100 i100 => ?_)
          refine lv_iload_n hx hb dX2_work_102 rfl (lv_at hl 2 rfl) ?_
          refine c_imul (a := 6) (b := x1.toInt) hx hb dX2_work_103 (by omega) rfl (by omega) (fun v103 i103 => ?_)
          refine c_cvi (As := [.ref (ad 15), .int v103]) (ci := 2) (q0 := 0) (wr := [((ad 1), .inl (cI, 6, .inl (f 0))), ((ad 2), .inl (cI, 6, .inl (f 1))), ((ad 3), .inl (cI, 6, .inl (f 2))), ((ad 4), .inl (cI, 6, .inl (f 3))), ((ad 5), .inl (cI, 360, .inl (f 4))), ((ad 6), .inl (cI, 360, .inl (f 5))), ((ad 7), .inl (cI, 2, .inl (f 6))), ((ad 8), .inl (cI, 2, .inl (f 7))), ((ad 9), .inl (cI, 20, .inl (f 8))), ((ad 10), .inl (cI, 20, .inl (f 9))), ((ad 11), .inl (cI, 20, .inl (f 10))), ((ad 12), .inl (cI, 20, .inl (f 11))), ((ad 13), .inl (cI, 366, .inl u6.1)), ((ad 14), .inl (cI, 366, .inl u15.1)), ((ad 16), .inl (cI, 6, .inl u15.2))]) (wF := (fun uZ => (WM cI ad f u6.1 u15.1 uZ u15.2 T Dv C th 0))) (kX2_close l D cI ad (ad 15) T Dv C th 0 bo2 v103 t (by omega) (by omega) hbz) ⟨hx, hb, hml, hown, hts⟩ (cwV 2 hts gX2_work_X2_close rfl rfl rfl (by decide +kernel) ⟨Nat.le_of_ble_eq_true rfl, Nat.le_of_ble_eq_true rfl⟩) hK hP hD hS hA [0, 15] [1, 2, 3, 4, 5, 6, 7, 8, 9, 10, 11, 12, 13, 14, 16] [15, 0, 1, 2, 3, 4, 5, 6, 7, 8, 9, 10, 11, 12, 13, 16, 14] rfl (by decide) rfl (by decide) (by decide) (by decide) (fun _ => rfl) rfl rfl rfl rfl hl.1 rfl (Nat.le_of_ble_eq_true rfl) dX2_work_104 ⟨Nat.zero_le _, Nat.zero_le _⟩ (fun r104 u104 H locs q104 hP hD hS => ?_)
          try dsimp only at q104
          have hP : va_P D vwCl (WM cI ad f u6.1 u15.1 u104 u15.2 T Dv C th 0) H := hP
          have hD : va_D A (WM cI ad f u6.1 u15.1 u104 u15.2 T Dv C th 0) := hD
          refine lv_istore_n (lv' := [(2, .int r104), (0, .ref (ad 0)), (1, .int x1)]) hx hb dX2_work_107 rfl hl (by decide) rfl (fun ls hl => ?_)
          refine c_iinc (k := 2) hx hb (fun v108 => [(1, .int v108), (2, .int r104), (0, .ref (ad 0))]) dX2_work_108 hl rfl (by decide) (by omega) (by decide) (fun _ => rfl) (fun v108 ls i108 hl => ?_)
          have hl : lv_has ls 3 [(1, .int v108), (2, .int r104), (0, .ref (ad 0))] := hl
          refine lv_goto (tgt := 20) hx hb dX2_work_111 (by decide) ?_
          exact ih20 (t + 1) v108 u104 _ _ _ (by omega) (by omega) (by omega) (fun j hj => by
                  rcases (show j < t ∨ j = t by omega) with h | rfl
                  · have ek : eq6 (rwM u104 j) (rwM bo1 j) := rwM_keep (fun i h3 h4 => (q104.2 i (by omega)).trans (Ubo2.2 i (by omega)))
                    exact (hdo j h).cg ek
                  · rcases q104.1 with ⟨-, z⟩ | ⟨-, z⟩
                    · exact z.congr hs
                    · obtain ⟨a, b, h⟩ := Trv_some hF (Tn - j) (by omega)
                      exact absurd ((hs a b).mpr h) (z a b)) hP hD hS (lv_sub hl [2, 0] rfl)
    exact HL20 (Tn + 2) 0 v18 bo _ _ _ (by omega) (by omega) (by omega) (fun j h => absurd h (by omega)) hP hD hS (lv_sub hl [1, 0] rfl)
  · skip
    refine c_iconst hx hb dX2_work_12 (by decide) (fun v12 i12 => ?_)
    exact c_rz (u6.1, bk, bo, u6.2) hx hb hr hlocks hK hP hD hS dX2_work_13 (by omega) (Or.inl ⟨by omega, LA_no q6 (by omega)⟩)
