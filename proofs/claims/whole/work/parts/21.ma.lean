set_option maxHeartbeats 4000000 in
set_option maxRecDepth 100000 in
theorem kX2_clear (l : Launch) (D : va_G) (cI : ClassId) (ad : Nat → Nat) (f : Nat → Nat → Int32) (ah : Nat → Int32) (bk : Nat → Int32) (bo : Nat → Int32) (mv : Nat → Int32) (T : Int32) (Dv : Int32) (C : Int32) (th : Int32) (mo : Int32) (p1 : Int32) : MV l yX2_clear wsX2_clear ({ frames := 0, cells := 0, slots := 0, locals := 0 } : Room) D [(cI, .int)] [.ref (ad 0), .int p1] (WM cI ad f ah bk bo mv T Dv C th mo) (fun u : Unit => (WM cI ad (clr f) ah bk bo mv p1 0 0 th mo)) (fun (_ : Unit) => True) := by
  refine c_ent (cc := cX2_clear) (maxL := 3) (ret := none) (Qc := fun A => va_Qv (fun (_ : Unit) => True) (cB D [(cI, .int)] A (fun u : Unit => (WM cI ad (clr f) ah bk bo mv p1 0 0 th mo))) A) (by decide) rfl (Nat.le_of_ble_eq_true rfl) ?_
  intro p e s m below meth c A ls hx hb hr hlocks hts hown hml hK hP hD hA hl
  have hS : va_S A s.heap s.heap [] := va_S.rf
  have hl : lv_has ls 3 [(0, .ref (ad 0)), (1, .int p1)] := hl
  have hP : va_P D vwCl (WM cI ad f ah bk bo mv T Dv C th mo) s.heap := hP
  have fl7 := hts (.fieldLink RX2 7 "DoorBenchModel" "ticks" "I") (by decide +kernel)
  have fl26 := hts (.fieldLink RX2 26 "DoorBenchModel" "in" "[I") (by decide +kernel)
  have fl29 := hts (.fieldLink RX2 29 "DoorBenchModel" "out" "[I") (by decide +kernel)
  have fl32 := hts (.fieldLink RX2 32 "DoorBenchModel" "low" "[I") (by decide +kernel)
  have fl35 := hts (.fieldLink RX2 35 "DoorBenchModel" "high" "[I") (by decide +kernel)
  have fl69 := hts (.fieldLink RX2 69 "DoorBenchModel" "doors" "I") (by decide +kernel)
  have fl72 := hts (.fieldLink RX2 72 "DoorBenchModel" "checks" "I") (by decide +kernel)
  have inX2 : ∀ w ∈ wsX20, w ∈ wsX2_clear := by decide +kernel
  refine lv_aload_n hx hb dX2_clear_0 rfl (lv_at hl 0 rfl) ?_
  refine lv_iload_n hx hb dX2_clear_1 rfl (lv_at hl 1 rfl) ?_
  refine c_put (D := D) (ci := 2) (C := RX2) (T := TX2) (N := 21) hx hb hts inX2 tyX2 tyX2_ok nmX2 hown hK hP hD hS 0 rfl rfl 0 (by decide) fl7 (fun _ h9 => h9) rfl (by decide +kernel) (Nat.le_of_ble_eq_true rfl) (WM cI ad f ah bk bo mv p1 Dv C th mo) rfl dX2_clear_2 (fun H locs hP hD hS => ?_)
  refine lv_aload_n hx hb dX2_clear_5 rfl (lv_at hl 0 rfl) ?_
  refine c_iconst hx hb dX2_clear_6 (by decide) (fun v6 i6 => ?_)
  obtain rfl : v6 = 0 := t_inj (by rw [i6]; rfl)
  refine c_put (D := D) (ci := 2) (C := RX2) (T := TX2) (N := 21) hx hb hts inX2 tyX2 tyX2_ok nmX2 hown hK hP hD hS 0 rfl rfl 1 (by decide) fl69 (fun _ h9 => h9) rfl (by decide +kernel) (Nat.le_of_ble_eq_true rfl) (WM cI ad f ah bk bo mv p1 0 C th mo) rfl dX2_clear_7 (fun H locs hP hD hS => ?_)
  refine lv_aload_n hx hb dX2_clear_10 rfl (lv_at hl 0 rfl) ?_
  refine c_iconst hx hb dX2_clear_11 (by decide) (fun v11 i11 => ?_)
  obtain rfl : v11 = 0 := t_inj (by rw [i11]; rfl)
  refine c_put (D := D) (ci := 2) (C := RX2) (T := TX2) (N := 21) hx hb hts inX2 tyX2 tyX2_ok nmX2 hown hK hP hD hS 0 rfl rfl 10 (by decide) fl72 (fun _ h9 => h9) rfl (by decide +kernel) (Nat.le_of_ble_eq_true rfl) (WM cI ad f ah bk bo mv p1 0 0 th mo) rfl dX2_clear_12 (fun H locs hP hD hS => ?_)
  refine c_iconst hx hb dX2_clear_15 (by decide) (fun v15 i15 => ?_)
  refine lv_istore_n (lv' := [(2, .int v15), (0, .ref (ad 0)), (1, .int p1)]) hx hb dX2_clear_16 rfl hl (by decide) rfl (fun ls hl => ?_)
  have HL17 : ∀ (n : Nat) (k : Nat) (x2 : Int32) (g4 : Nat → Int32) (g5 : Nat → Int32) (H : Heap) (locs : List Loc) (ls : Array Slot), (x2.toInt = (k : Int)) → (k ≤ 360) → (361 ≤ k + n) → (∀ j, j < k → g4 j = -1 ∧ g5 j = -1) → va_P D vwCl (WM cI ad (st2 (st2 f 4 g4) 5 g5) ah bk bo mv p1 0 0 th mo) H → va_D A (WM cI ad (st2 (st2 f 4 g4) 5 g5) ah bk bo mv p1 0 0 th mo) → va_S A s.heap H locs → lv_has ls 3 [(0, .ref (ad 0)), (1, .int p1), (2, .int x2)] → W p l e ({ frames := 0, cells := 0, slots := 0, locals := 0 } : Room) s m [.ref (ad 0), .int p1].toArray below meth c H locs 0 0 (MQ below (va_Qv (fun (_ : Unit) => True) (cB D [(cI, .int)] A (fun u : Unit => (WM cI ad (clr f) ah bk bo mv p1 0 0 th mo))) A) [.ref (ad 0), .int p1].toArray s 0 0 A) (F0 m 17 ls []) := by
    intro n
    induction n with
    | zero => intro k x2 g4 g5 H locs ls hx2 hk hms hva; exact absurd hms (by omega)
    | succ n ih17 =>
      intro k x2 g4 g5 H locs ls hx2 hk hms hva hP hD hS hl
      refine lv_iload_n hx hb dX2_clear_17 rfl (lv_at hl 2 rfl) ?_
      refine c_sipush hx hb dX2_clear_18 (by decide) (fun v18 i18 => ?_)
      refine c_icmp_ge (tgt := 44) hx hb dX2_clear_21 (by decide) (fun c21 => ?_) (fun c21 => ?_)
      · skip
        have hP := va_P_arr (fun _ => -1) hP (q0 := 5) rfl (fun j hj => (hva j (by omega)).1)
        have hD := va_D.set (e := .inl (cI, 360, .inl (fun _ => -1))) hD (p := 5) rfl
        have hP := va_P_arr (fun _ => -1) hP (q0 := 6) rfl (fun j hj => (hva j (by omega)).2)
        have hD := va_D.set (e := .inl (cI, 360, .inl (fun _ => -1))) hD (p := 6) rfl
        have hP : va_P D vwCl (WM cI ad (st2 (st2 f 4 (fun _ => -1)) 5 (fun _ => -1)) ah bk bo mv p1 0 0 th mo) H := hP
        have hD : va_D A (WM cI ad (st2 (st2 f 4 (fun _ => -1)) 5 (fun _ => -1)) ah bk bo mv p1 0 0 th mo) := hD
        refine c_iconst hx hb dX2_clear_44 (by decide) (fun v44 i44 => ?_)
        refine lv_istore_n (lv' := [(2, .int v44), (0, .ref (ad 0)), (1, .int p1)]) hx hb dX2_clear_45 rfl hl (by decide) rfl (fun ls hl => ?_)
        refine lv_iload_n hx hb dX2_clear_46 rfl (lv_at hl 0 rfl) ?_
        refine c_iconst hx hb dX2_clear_47 (by decide) (fun v47 i47 => ?_)
        refine c_icmp_ge (tgt := 71) hx hb dX2_clear_48 (by decide) (fun c48 => absurd c48 (by omega)) (fun c48 => ?_)
        refine lv_aload_n hx hb dX2_clear_51 rfl (lv_at hl 1 rfl) ?_
        refine va_get (D := D) (ci := 2) (v := .ref (ad 7)) (C := RX2) (T := TX2) (N := 21) hx hb hts inX2 hown hK hP 0 rfl rfl 8 (by decide) fl32 (fun _ h9 => h9) rfl dX2_clear_52 ?_
        refine lv_iload_n hx hb dX2_clear_55 rfl (lv_at hl 0 rfl) ?_
        refine c_iconst hx hb dX2_clear_56 (by decide) (fun v56 i56 => ?_)
        refine c_iast hx hb hK hP hD hS 7 0 rfl rfl (0) (by omega) (by omega) (WM cI ad (up2 (st2 (st2 f 4 (fun _ => -1)) 5 (fun _ => -1)) 6 (0) v56) ah bk bo mv p1 0 0 th mo) rfl dX2_clear_57 (fun H locs hP hD hS => ?_)
        refine lv_aload_n hx hb dX2_clear_58 rfl (lv_at hl 1 rfl) ?_
        refine va_get (D := D) (ci := 2) (v := .ref (ad 8)) (C := RX2) (T := TX2) (N := 21) hx hb hts inX2 hown hK hP 0 rfl rfl 9 (by decide) fl35 (fun _ h9 => h9) rfl dX2_clear_59 ?_
        refine lv_iload_n hx hb dX2_clear_62 rfl (lv_at hl 0 rfl) ?_
        refine c_iconst hx hb dX2_clear_63 (by decide) (fun v63 i63 => ?_)
        refine c_iast hx hb hK hP hD hS 8 0 rfl rfl (0) (by omega) (by omega) (WM cI ad (up2 (up2 (st2 (st2 f 4 (fun _ => -1)) 5 (fun _ => -1)) 6 (0) v56) 7 (0) v63) ah bk bo mv p1 0 0 th mo) rfl dX2_clear_64 (fun H locs hP hD hS => ?_)
        refine c_iinc (k := 0) hx hb (fun v65 => [(2, .int v65), (0, .ref (ad 0)), (1, .int p1)]) dX2_clear_65 hl rfl (by decide) (by omega) (by decide) (fun _ => rfl) (fun v65 ls i65 hl => ?_)
        have hl : lv_has ls 3 [(2, .int v65), (0, .ref (ad 0)), (1, .int p1)] := hl
        refine lv_goto (tgt := 46) hx hb dX2_clear_68 (by decide) ?_
        refine lv_iload_n hx hb dX2_clear_46 rfl (lv_at hl 0 rfl) ?_
        refine c_iconst hx hb dX2_clear_47 (by decide) (fun v47_2 i47_2 => ?_)
        refine c_icmp_ge (tgt := 71) hx hb dX2_clear_48 (by decide) (fun c48_2 => absurd c48_2 (by omega)) (fun c48_2 => ?_)
        refine lv_aload_n hx hb dX2_clear_51 rfl (lv_at hl 1 rfl) ?_
        refine va_get (D := D) (ci := 2) (v := .ref (ad 7)) (C := RX2) (T := TX2) (N := 21) hx hb hts inX2 hown hK hP 0 rfl rfl 8 (by decide) fl32 (fun _ h9 => h9) rfl dX2_clear_52 ?_
        refine lv_iload_n hx hb dX2_clear_55 rfl (lv_at hl 0 rfl) ?_
        refine c_iconst hx hb dX2_clear_56 (by decide) (fun v56_2 i56_2 => ?_)
        refine c_iast hx hb hK hP hD hS 7 0 rfl rfl (1) (by omega) (by omega) (WM cI ad (up2 (up2 (up2 (st2 (st2 f 4 (fun _ => -1)) 5 (fun _ => -1)) 6 (0) v56) 7 (0) v63) 6 (1) v56_2) ah bk bo mv p1 0 0 th mo) rfl dX2_clear_57 (fun H locs hP hD hS => ?_)
        refine lv_aload_n hx hb dX2_clear_58 rfl (lv_at hl 1 rfl) ?_
        refine va_get (D := D) (ci := 2) (v := .ref (ad 8)) (C := RX2) (T := TX2) (N := 21) hx hb hts inX2 hown hK hP 0 rfl rfl 9 (by decide) fl35 (fun _ h9 => h9) rfl dX2_clear_59 ?_
        refine lv_iload_n hx hb dX2_clear_62 rfl (lv_at hl 0 rfl) ?_
        refine c_iconst hx hb dX2_clear_63 (by decide) (fun v63_2 i63_2 => ?_)
        refine c_iast hx hb hK hP hD hS 8 0 rfl rfl (1) (by omega) (by omega) (WM cI ad (up2 (up2 (up2 (up2 (st2 (st2 f 4 (fun _ => -1)) 5 (fun _ => -1)) 6 (0) v56) 7 (0) v63) 6 (1) v56_2) 7 (1) v63_2) ah bk bo mv p1 0 0 th mo) rfl dX2_clear_64 (fun H locs hP hD hS => ?_)
        refine c_iinc (k := 0) hx hb (fun v65_2 => [(2, .int v65_2), (0, .ref (ad 0)), (1, .int p1)]) dX2_clear_65 hl rfl (by decide) (by omega) (by decide) (fun _ => rfl) (fun v65_2 ls i65_2 hl => ?_)
        have hl : lv_has ls 3 [(2, .int v65_2), (0, .ref (ad 0)), (1, .int p1)] := hl
        refine lv_goto (tgt := 46) hx hb dX2_clear_68 (by decide) ?_
        refine lv_iload_n hx hb dX2_clear_46 rfl (lv_at hl 0 rfl) ?_
        refine c_iconst hx hb dX2_clear_47 (by decide) (fun v47_3 i47_3 => ?_)
        refine c_icmp_ge (tgt := 71) hx hb dX2_clear_48 (by decide) (fun c48_3 => ?_) (fun c48_3 => absurd c48_3 (by omega))
        obtain rfl : v56 = 0 := t_inj (by rw [i56]; rfl)
        obtain rfl : v56_2 = 0 := t_inj (by rw [i56_2]; rfl)
        obtain rfl : v63 = 0 := t_inj (by rw [i63]; rfl)
        obtain rfl : v63_2 = 0 := t_inj (by rw [i63_2]; rfl)
        have hP := va_P_arr (fun _ => 0) hP (q0 := 7) rfl (fun j hj => by rcases (show j = 0 ∨ j = 1 by omega) with rfl | rfl <;> rfl)
        have hD := va_D.set (e := .inl (cI, 2, .inl (fun _ => 0))) hD (p := 7) rfl
        have hP := va_P_arr (fun _ => 0) hP (q0 := 8) rfl (fun j hj => by rcases (show j = 0 ∨ j = 1 by omega) with rfl | rfl <;> rfl)
        have hD := va_D.set (e := .inl (cI, 2, .inl (fun _ => 0))) hD (p := 8) rfl
        have hP : va_P D vwCl (WM cI ad (clr f) ah bk bo mv p1 0 0 th mo) H := hP
        have hD : va_D A (WM cI ad (clr f) ah bk bo mv p1 0 0 th mo) := hD
        exact c_rv () hx hb hr hlocks hK hP hD hS dX2_clear_71 trivial
      · skip
        refine lv_aload_n hx hb dX2_clear_24 rfl (lv_at hl 0 rfl) ?_
        refine va_get (D := D) (ci := 2) (v := .ref (ad 5)) (C := RX2) (T := TX2) (N := 21) hx hb hts inX2 hown hK hP 0 rfl rfl 6 (by decide) fl26 (fun _ h9 => h9) rfl dX2_clear_25 ?_
        refine lv_iload_n hx hb dX2_clear_28 rfl (lv_at hl 2 rfl) ?_
        refine c_iconst hx hb dX2_clear_29 (by decide) (fun v29 i29 => ?_)
        refine c_iast hx hb hK hP hD hS 5 0 rfl rfl (k) (by omega) (by omega) (WM cI ad (up2 (st2 (st2 f 4 g4) 5 g5) 4 (k) v29) ah bk bo mv p1 0 0 th mo) rfl dX2_clear_30 (fun H locs hP hD hS => ?_)
        refine lv_aload_n hx hb dX2_clear_31 rfl (lv_at hl 0 rfl) ?_
        refine va_get (D := D) (ci := 2) (v := .ref (ad 6)) (C := RX2) (T := TX2) (N := 21) hx hb hts inX2 hown hK hP 0 rfl rfl 7 (by decide) fl29 (fun _ h9 => h9) rfl dX2_clear_32 ?_
        refine lv_iload_n hx hb dX2_clear_35 rfl (lv_at hl 2 rfl) ?_
        refine c_iconst hx hb dX2_clear_36 (by decide) (fun v36 i36 => ?_)
        refine c_iast hx hb hK hP hD hS 6 0 rfl rfl (k) (by omega) (by omega) (WM cI ad (up2 (up2 (st2 (st2 f 4 g4) 5 g5) 4 (k) v29) 5 (k) v36) ah bk bo mv p1 0 0 th mo) rfl dX2_clear_37 (fun H locs hP hD hS => ?_)
        have hP : va_P D vwCl (WM cI ad (st2 (st2 f 4 (upd g4 (k) v29)) 5 (upd g5 (k) v36)) ah bk bo mv p1 0 0 th mo) H := hP
        have hD : va_D A (WM cI ad (st2 (st2 f 4 (upd g4 (k) v29)) 5 (upd g5 (k) v36)) ah bk bo mv p1 0 0 th mo) := hD
        refine c_iinc (k := 2) hx hb (fun v38 => [(2, .int v38), (0, .ref (ad 0)), (1, .int p1)]) dX2_clear_38 hl rfl (by decide) (by omega) (by decide) (fun _ => rfl) (fun v38 ls i38 hl => ?_)
        have hl : lv_has ls 3 [(2, .int v38), (0, .ref (ad 0)), (1, .int p1)] := hl
        refine lv_goto (tgt := 17) hx hb dX2_clear_41 (by decide) ?_
        exact ih17 (k + 1) v38 (upd g4 (k) v29) (upd g5 (k) v36) _ _ _ (by omega) (by omega) (by omega) (fun j hj => by
                obtain rfl : v29 = -1 := t_inj (by rw [i29]; rfl)
                obtain rfl : v36 = -1 := t_inj (by rw [i36]; rfl)
                rcases (show j < k ∨ j = k by omega) with h | rfl
                · rw [pk_un (by omega), pk_un (by omega)]; exact hva j h
                · rw [pk_us, pk_us]; exact ⟨rfl, rfl⟩) hP hD hS (lv_sub hl [1, 2, 0] rfl)
  exact HL17 361 0 v15 (f 4) (f 5) _ _ _ (by omega) (by omega) (by omega) (fun j h => absurd h (by omega)) hP hD hS (lv_sub hl [1, 2, 0] rfl)
set_option maxHeartbeats 4000000 in
set_option maxRecDepth 100000 in
theorem kX2_thrown (l : Launch) (D : va_G) (cI : ClassId) (ad : Nat → Nat) (f : Nat → Nat → Int32) (ah : Nat → Int32) (bk : Nat → Int32) (bo : Nat → Int32) (mv : Nat → Int32) (T : Int32) (Dv : Int32) (C : Int32) (th : Int32) (mo : Int32) : MI l yX2_thrown wsX2_thrown ({ frames := 0, cells := 0, slots := 0, locals := 0 } : Room) D [(cI, .int)] [.ref (ad 0)] (WM cI ad f ah bk bo mv T Dv C th mo) (fun u : Unit => (WM cI ad f ah bk bo mv T Dv C th mo)) (fun (r : Int32) (_ : Unit) => r = th) := by
  refine c_ent (cc := cX2_thrown) (maxL := 1) (ret := (some .int)) (Qc := fun A => va_Qi (fun (r : Int32) (_ : Unit) => r = th) (cB D [(cI, .int)] A (fun u : Unit => (WM cI ad f ah bk bo mv T Dv C th mo))) A) (by decide) rfl (Nat.le_of_ble_eq_true rfl) ?_
  intro p e s m below meth c A ls hx hb hr hlocks hts hown hml hK hP hD hA hl
  have hS : va_S A s.heap s.heap [] := va_S.rf
  have hl : lv_has ls 1 [(0, .ref (ad 0))] := hl
  have hP : va_P D vwCl (WM cI ad f ah bk bo mv T Dv C th mo) s.heap := hP
  have fl66 := hts (.fieldLink RX2 66 "DoorBenchModel" "thrown" "I") (by decide +kernel)
  have inX2 : ∀ w ∈ wsX20, w ∈ wsX2_thrown := by decide +kernel
  refine lv_aload_n hx hb dX2_thrown_0 rfl (lv_at hl 0 rfl) ?_
  refine va_get (D := D) (ci := 2) (v := .int th) (C := RX2) (T := TX2) (N := 21) hx hb hts inX2 hown hK hP 0 rfl rfl 15 (by decide) fl66 (fun _ h9 => h9) rfl dX2_thrown_1 ?_
  exact c_ri () hx hb hr hlocks hK hP hD hS dX2_thrown_4 rfl
set_option maxHeartbeats 4000000 in
set_option maxRecDepth 100000 in
theorem kX2_day (l : Launch) (D : va_G) (cI : ClassId) (ad : Nat → Nat) (f : Nat → Nat → Int32) (ah : Nat → Int32) (bk : Nat → Int32) (bo : Nat → Int32) (mv : Nat → Int32) (T : Int32) (Dv : Int32) (C : Int32) (th : Int32) (mo : Int32) (Tn : Nat) (Dn : Nat) (Cn : Nat) (p1 : Int32) (hT : T.toInt = (Tn : Int)) (hDv : Dv.toInt = (Dn : Int)) (hC : C.toInt = (Cn : Int)) (hI : Inv f Tn Dn Cn) : MI l yX2_day wsX2_day ({ frames := 1, cells := 0, slots := 0, locals := 22 } : Room) D [(cI, .int)] [.ref (ad 0), .int p1] (WM cI ad f ah bk bo mv T Dv C th mo) (fun u : (Nat → Nat → Int32) × Int32 × Int32 × Int32 => (WM cI ad u.1 ah bk bo mv u.2.1 u.2.2.1 u.2.2.2 0 mo)) (fun (r : Int32) (u : (Nat → Nat → Int32) × Int32 × Int32 × Int32) => (((1 ≤ p1.toInt ∧ p1.toInt ≤ 60) ∧ r.toInt = 1 ∧ u = (clr f, p1, 0, 0)) ∨ (¬ (1 ≤ p1.toInt ∧ p1.toInt ≤ 60) ∧ r.toInt = 0 ∧ u = (f, T, Dv, C)))) := by
  refine c_ent (cc := cX2_day) (maxL := 2) (ret := (some .boolean)) (Qc := fun A => va_Qi (fun (r : Int32) (u : (Nat → Nat → Int32) × Int32 × Int32 × Int32) => (((1 ≤ p1.toInt ∧ p1.toInt ≤ 60) ∧ r.toInt = 1 ∧ u = (clr f, p1, 0, 0)) ∨ (¬ (1 ≤ p1.toInt ∧ p1.toInt ≤ 60) ∧ r.toInt = 0 ∧ u = (f, T, Dv, C)))) (cB D [(cI, .int)] A (fun u : (Nat → Nat → Int32) × Int32 × Int32 × Int32 => (WM cI ad u.1 ah bk bo mv u.2.1 u.2.2.1 u.2.2.2 0 mo))) A) (by decide) rfl (Nat.le_of_ble_eq_true rfl) ?_
  intro p e s m below meth c A ls hx hb hr hlocks hts hown hml hK hP hD hA hl
  have hS : va_S A s.heap s.heap [] := va_S.rf
  have hl : lv_has ls 2 [(0, .ref (ad 0)), (1, .int p1)] := hl
  have hP : va_P D vwCl (WM cI ad f ah bk bo mv T Dv C th mo) s.heap := hP
  have fl66 := hts (.fieldLink RX2 66 "DoorBenchModel" "thrown" "I") (by decide +kernel)
  have inX2 : ∀ w ∈ wsX20, w ∈ wsX2_day := by decide +kernel
  obtain ⟨hI0, hId, hIr, hIs, hIc⟩ := id hI
  refine lv_aload_n hx hb dX2_day_0 rfl (lv_at hl 0 rfl) ?_
  refine c_iconst hx hb dX2_day_1 (by decide) (fun v1 i1 => ?_)
  obtain rfl : v1 = 0 := t_inj (by rw [i1]; rfl)
  refine c_put (D := D) (ci := 2) (C := RX2) (T := TX2) (N := 21) hx hb hts inX2 tyX2 tyX2_ok nmX2 hown hK hP hD hS 0 rfl rfl 15 (by decide) fl66 (fun _ h9 => h9) rfl (by decide +kernel) (Nat.le_of_ble_eq_true rfl) (WM cI ad f ah bk bo mv T Dv C 0 mo) rfl dX2_day_2 (fun H locs hP hD hS => ?_)
  refine lv_iload_n hx hb dX2_day_5 rfl (lv_at hl 1 rfl) ?_
  refine c_iconst hx hb dX2_day_6 (by decide) (fun v6 i6 => ?_)
  refine c_icmp_lt (tgt := 16) hx hb dX2_day_7 (by decide) (fun c7 => ?_) (fun c7 => ?_)
  · skip
    refine c_iconst hx hb dX2_day_16 (by decide) (fun v16 i16 => ?_)
    exact c_rz (f, T, Dv, C) hx hb hr hlocks hK hP hD hS dX2_day_17 (by omega) (Or.inr ⟨by omega, by omega, rfl⟩)
  · skip
    refine lv_iload_n hx hb dX2_day_10 rfl (lv_at hl 1 rfl) ?_
    refine c_bipush hx hb dX2_day_11 (by decide) (fun v11 i11 => ?_)
    refine c_icmp_le (tgt := 18) hx hb dX2_day_13 (by decide) (fun c13 => ?_) (fun c13 => ?_)
    · skip
      refine lv_aload_n hx hb dX2_day_18 rfl (lv_at hl 0 rfl) ?_
      refine lv_iload_n hx hb dX2_day_19 rfl (lv_at hl 1 rfl) ?_
      refine c_wvv (As := [.int p1]) (ci := 2) (q0 := 0) (kX2_clear l D cI ad f ah bk bo mv T Dv C 0 mo p1) ⟨hx, hb, hml, hown, hts⟩ (cwV 1 hts gX2_day_X2_clear rfl rfl rfl (by decide +kernel) ⟨Nat.le_of_ble_eq_true rfl, Nat.le_of_ble_eq_true rfl⟩) hK hP hD hS hA rfl rfl rfl rfl hl.1 rfl (Nat.le_of_ble_eq_true rfl) dX2_day_20 ⟨Nat.zero_le _, Nat.zero_le _⟩ (fun u20 H locs q20 hP hD hS => ?_)
      try dsimp only at q20
      have hP : va_P D vwCl (WM cI ad (clr f) ah bk bo mv p1 0 0 0 mo) H := hP
      have hD : va_D A (WM cI ad (clr f) ah bk bo mv p1 0 0 0 mo) := hD
      refine c_iconst hx hb dX2_day_23 (by decide) (fun v23 i23 => ?_)
      exact c_rz ((clr f), p1, 0, 0) hx hb hr hlocks hK hP hD hS dX2_day_24 (by omega) (Or.inl ⟨by omega, by omega, rfl⟩)
    · skip
      refine c_iconst hx hb dX2_day_16 (by decide) (fun v16_2 i16_2 => ?_)
      exact c_rz (f, T, Dv, C) hx hb hr hlocks hK hP hD hS dX2_day_17 (by omega) (Or.inr ⟨by omega, by omega, rfl⟩)
set_option maxHeartbeats 4000000 in
set_option maxRecDepth 100000 in
theorem kX2_door (l : Launch) (D : va_G) (cI : ClassId) (ad : Nat → Nat) (f : Nat → Nat → Int32) (ah : Nat → Int32) (bk : Nat → Int32) (bo : Nat → Int32) (mv : Nat → Int32) (T : Int32) (Dv : Int32) (C : Int32) (th : Int32) (mo : Int32) (Tn : Nat) (Dn : Nat) (Cn : Nat) (p1 : Int32) (p2 : Int32) (p3 : Int32) (p4 : Int32) (hT : T.toInt = (Tn : Int)) (hDv : Dv.toInt = (Dn : Int)) (hC : C.toInt = (Cn : Int)) (hI : Inv f Tn Dn Cn) : MI l yX2_door wsX2_door ({ frames := 0, cells := 0, slots := 0, locals := 0 } : Room) D [(cI, .int)] [.ref (ad 0), .int p1, .int p2, .int p3, .int p4] (WM cI ad f ah bk bo mv T Dv C th mo) (fun u : (Nat → Nat → Int32) × Int32 => (WM cI ad u.1 ah bk bo mv T u.2 C 0 mo)) (fun (r : Int32) (u : (Nat → Nat → Int32) × Int32) => (((Dn < 6 ∧ (0 ≤ p1.toInt ∧ p1.toInt ≤ 2) ∧ (0 ≤ p2.toInt ∧ p2.toInt ≤ 5) ∧ (0 ≤ p3.toInt ∧ p3.toInt ≤ 5) ∧ (0 ≤ p4.toInt ∧ p4.toInt ≤ 20)) ∧ r.toInt = (Dn : Int) ∧ u.1 = dorF f Dn p1 p2 p3 p4 ∧ u.2.toInt = (Dn : Int) + 1) ∨ (¬ (Dn < 6 ∧ (0 ≤ p1.toInt ∧ p1.toInt ≤ 2) ∧ (0 ≤ p2.toInt ∧ p2.toInt ≤ 5) ∧ (0 ≤ p3.toInt ∧ p3.toInt ≤ 5) ∧ (0 ≤ p4.toInt ∧ p4.toInt ≤ 20)) ∧ r.toInt = -1 ∧ u = (f, Dv)))) := by
  refine c_ent (cc := cX2_door) (maxL := 5) (ret := (some .int)) (Qc := fun A => va_Qi (fun (r : Int32) (u : (Nat → Nat → Int32) × Int32) => (((Dn < 6 ∧ (0 ≤ p1.toInt ∧ p1.toInt ≤ 2) ∧ (0 ≤ p2.toInt ∧ p2.toInt ≤ 5) ∧ (0 ≤ p3.toInt ∧ p3.toInt ≤ 5) ∧ (0 ≤ p4.toInt ∧ p4.toInt ≤ 20)) ∧ r.toInt = (Dn : Int) ∧ u.1 = dorF f Dn p1 p2 p3 p4 ∧ u.2.toInt = (Dn : Int) + 1) ∨ (¬ (Dn < 6 ∧ (0 ≤ p1.toInt ∧ p1.toInt ≤ 2) ∧ (0 ≤ p2.toInt ∧ p2.toInt ≤ 5) ∧ (0 ≤ p3.toInt ∧ p3.toInt ≤ 5) ∧ (0 ≤ p4.toInt ∧ p4.toInt ≤ 20)) ∧ r.toInt = -1 ∧ u = (f, Dv)))) (cB D [(cI, .int)] A (fun u : (Nat → Nat → Int32) × Int32 => (WM cI ad u.1 ah bk bo mv T u.2 C 0 mo))) A) (by decide) rfl (Nat.le_of_ble_eq_true rfl) ?_
  intro p e s m below meth c A ls hx hb hr hlocks hts hown hml hK hP hD hA hl
  have hS : va_S A s.heap s.heap [] := va_S.rf
  have hl : lv_has ls 5 [(0, .ref (ad 0)), (1, .int p1), (2, .int p2), (3, .int p3), (4, .int p4)] := hl
  have hP : va_P D vwCl (WM cI ad f ah bk bo mv T Dv C th mo) s.heap := hP
  have fl13 := hts (.fieldLink RX2 13 "DoorBenchModel" "kind" "[I") (by decide +kernel)
  have fl17 := hts (.fieldLink RX2 17 "DoorBenchModel" "miss" "[I") (by decide +kernel)
  have fl20 := hts (.fieldLink RX2 20 "DoorBenchModel" "twice" "[I") (by decide +kernel)
  have fl23 := hts (.fieldLink RX2 23 "DoorBenchModel" "cap" "[I") (by decide +kernel)
  have fl66 := hts (.fieldLink RX2 66 "DoorBenchModel" "thrown" "I") (by decide +kernel)
  have fl69 := hts (.fieldLink RX2 69 "DoorBenchModel" "doors" "I") (by decide +kernel)
  have inX2 : ∀ w ∈ wsX20, w ∈ wsX2_door := by decide +kernel
  obtain ⟨hI0, hId, hIr, hIs, hIc⟩ := id hI
  refine lv_aload_n hx hb dX2_door_0 rfl (lv_at hl 0 rfl) ?_
  refine c_iconst hx hb dX2_door_1 (by decide) (fun v1 i1 => ?_)
  obtain rfl : v1 = 0 := t_inj (by rw [i1]; rfl)
  refine c_put (D := D) (ci := 2) (C := RX2) (T := TX2) (N := 21) hx hb hts inX2 tyX2 tyX2_ok nmX2 hown hK hP hD hS 0 rfl rfl 15 (by decide) fl66 (fun _ h9 => h9) rfl (by decide +kernel) (Nat.le_of_ble_eq_true rfl) (WM cI ad f ah bk bo mv T Dv C 0 mo) rfl dX2_door_2 (fun H locs hP hD hS => ?_)
  refine lv_aload_n hx hb dX2_door_5 rfl (lv_at hl 0 rfl) ?_
  refine va_get (D := D) (ci := 2) (v := .int Dv) (C := RX2) (T := TX2) (N := 21) hx hb hts inX2 hown hK hP 0 rfl rfl 1 (by decide) fl69 (fun _ h9 => h9) rfl dX2_door_6 ?_
  refine c_bipush hx hb dX2_door_9 (by decide) (fun v9 i9 => ?_)
  refine c_icmp_eq (tgt := 53) hx hb dX2_door_11 (by decide) (fun c11 => ?_) (fun c11 => ?_)
  · skip
    refine c_iconst hx hb dX2_door_53 (by decide) (fun v53 i53 => ?_)
    exact c_ri (f, Dv) hx hb hr hlocks hK hP hD hS dX2_door_54 (Or.inr ⟨by omega, by omega, rfl⟩)
  · skip
    refine lv_iload_n hx hb dX2_door_14 rfl (lv_at hl 1 rfl) ?_
    refine c_if_lt (tgt := 53) hx hb dX2_door_15 (by decide) (fun c15 => ?_) (fun c15 => ?_)
    · skip
      refine c_iconst hx hb dX2_door_53 (by decide) (fun v53_2 i53_2 => ?_)
      exact c_ri (f, Dv) hx hb hr hlocks hK hP hD hS dX2_door_54 (Or.inr ⟨by omega, by omega, rfl⟩)
    · skip
      refine lv_iload_n hx hb dX2_door_18 rfl (lv_at hl 1 rfl) ?_
      refine c_iconst hx hb dX2_door_19 (by decide) (fun v19 i19 => ?_)
      refine c_icmp_gt (tgt := 53) hx hb dX2_door_20 (by decide) (fun c20 => ?_) (fun c20 => ?_)
      · skip
        refine c_iconst hx hb dX2_door_53 (by decide) (fun v53_3 i53_3 => ?_)
        exact c_ri (f, Dv) hx hb hr hlocks hK hP hD hS dX2_door_54 (Or.inr ⟨by omega, by omega, rfl⟩)
      · skip
        refine lv_iload_n hx hb dX2_door_23 rfl (lv_at hl 2 rfl) ?_
        refine c_if_lt (tgt := 53) hx hb dX2_door_24 (by decide) (fun c24 => ?_) (fun c24 => ?_)
        · skip
          refine c_iconst hx hb dX2_door_53 (by decide) (fun v53_4 i53_4 => ?_)
          exact c_ri (f, Dv) hx hb hr hlocks hK hP hD hS dX2_door_54 (Or.inr ⟨by omega, by omega, rfl⟩)
        · skip
          refine lv_iload_n hx hb dX2_door_27 rfl (lv_at hl 2 rfl) ?_
          refine c_iconst hx hb dX2_door_28 (by decide) (fun v28 i28 => ?_)
          refine c_icmp_gt (tgt := 53) hx hb dX2_door_29 (by decide) (fun c29 => ?_) (fun c29 => ?_)
          · skip
            refine c_iconst hx hb dX2_door_53 (by decide) (fun v53_5 i53_5 => ?_)
            exact c_ri (f, Dv) hx hb hr hlocks hK hP hD hS dX2_door_54 (Or.inr ⟨by omega, by omega, rfl⟩)
          · skip
            refine lv_iload_n hx hb dX2_door_32 rfl (lv_at hl 3 rfl) ?_
            refine c_if_lt (tgt := 53) hx hb dX2_door_33 (by decide) (fun c33 => ?_) (fun c33 => ?_)
            · skip
              refine c_iconst hx hb dX2_door_53 (by decide) (fun v53_6 i53_6 => ?_)
              exact c_ri (f, Dv) hx hb hr hlocks hK hP hD hS dX2_door_54 (Or.inr ⟨by omega, by omega, rfl⟩)
            · skip
              refine lv_iload_n hx hb dX2_door_36 rfl (lv_at hl 3 rfl) ?_
              refine c_iconst hx hb dX2_door_37 (by decide) (fun v37 i37 => ?_)
              refine c_icmp_gt (tgt := 53) hx hb dX2_door_38 (by decide) (fun c38 => ?_) (fun c38 => ?_)
              · skip
                refine c_iconst hx hb dX2_door_53 (by decide) (fun v53_7 i53_7 => ?_)
                exact c_ri (f, Dv) hx hb hr hlocks hK hP hD hS dX2_door_54 (Or.inr ⟨by omega, by omega, rfl⟩)
              · skip
                refine lv_iload hx hb dX2_door_41 (lv_at hl 4 rfl) ?_
                refine c_if_lt (tgt := 53) hx hb dX2_door_43 (by decide) (fun c43 => ?_) (fun c43 => ?_)
                · skip
                  refine c_iconst hx hb dX2_door_53 (by decide) (fun v53_8 i53_8 => ?_)
                  exact c_ri (f, Dv) hx hb hr hlocks hK hP hD hS dX2_door_54 (Or.inr ⟨by omega, by omega, rfl⟩)
                · skip
                  refine lv_iload hx hb dX2_door_46 (lv_at hl 4 rfl) ?_
                  refine c_bipush hx hb dX2_door_48 (by decide) (fun v48 i48 => ?_)
                  refine c_icmp_le (tgt := 55) hx hb dX2_door_50 (by decide) (fun c50 => ?_) (fun c50 => ?_)
                  · skip
                    refine lv_aload_n hx hb dX2_door_55 rfl (lv_at hl 0 rfl) ?_
                    refine va_get (D := D) (ci := 2) (v := .ref (ad 1)) (C := RX2) (T := TX2) (N := 21) hx hb hts inX2 hown hK hP 0 rfl rfl 2 (by decide) fl13 (fun _ h9 => h9) rfl dX2_door_56 ?_
                    refine lv_aload_n hx hb dX2_door_59 rfl (lv_at hl 0 rfl) ?_
                    refine va_get (D := D) (ci := 2) (v := .int Dv) (C := RX2) (T := TX2) (N := 21) hx hb hts inX2 hown hK hP 0 rfl rfl 1 (by decide) fl69 (fun _ h9 => h9) rfl dX2_door_60 ?_
                    refine lv_iload_n hx hb dX2_door_63 rfl (lv_at hl 1 rfl) ?_
                    refine c_iast hx hb hK hP hD hS 1 0 rfl rfl (Dn) (by omega) (by omega) (WM cI ad (up2 f 0 (Dn) p1) ah bk bo mv T Dv C 0 mo) rfl dX2_door_64 (fun H locs hP hD hS => ?_)
                    refine lv_aload_n hx hb dX2_door_65 rfl (lv_at hl 0 rfl) ?_
                    refine va_get (D := D) (ci := 2) (v := .ref (ad 2)) (C := RX2) (T := TX2) (N := 21) hx hb hts inX2 hown hK hP 0 rfl rfl 3 (by decide) fl17 (fun _ h9 => h9) rfl dX2_door_66 ?_
                    refine lv_aload_n hx hb dX2_door_69 rfl (lv_at hl 0 rfl) ?_
                    refine va_get (D := D) (ci := 2) (v := .int Dv) (C := RX2) (T := TX2) (N := 21) hx hb hts inX2 hown hK hP 0 rfl rfl 1 (by decide) fl69 (fun _ h9 => h9) rfl dX2_door_70 ?_
                    refine lv_iload_n hx hb dX2_door_73 rfl (lv_at hl 2 rfl) ?_
                    refine c_iast hx hb hK hP hD hS 2 0 rfl rfl (Dn) (by omega) (by omega) (WM cI ad (up2 (up2 f 0 (Dn) p1) 1 (Dn) p2) ah bk bo mv T Dv C 0 mo) rfl dX2_door_74 (fun H locs hP hD hS => ?_)
                    refine lv_aload_n hx hb dX2_door_75 rfl (lv_at hl 0 rfl) ?_
                    refine va_get (D := D) (ci := 2) (v := .ref (ad 3)) (C := RX2) (T := TX2) (N := 21) hx hb hts inX2 hown hK hP 0 rfl rfl 4 (by decide) fl20 (fun _ h9 => h9) rfl dX2_door_76 ?_
                    refine lv_aload_n hx hb dX2_door_79 rfl (lv_at hl 0 rfl) ?_
                    refine va_get (D := D) (ci := 2) (v := .int Dv) (C := RX2) (T := TX2) (N := 21) hx hb hts inX2 hown hK hP 0 rfl rfl 1 (by decide) fl69 (fun _ h9 => h9) rfl dX2_door_80 ?_
                    refine lv_iload_n hx hb dX2_door_83 rfl (lv_at hl 3 rfl) ?_
                    refine c_iast hx hb hK hP hD hS 3 0 rfl rfl (Dn) (by omega) (by omega) (WM cI ad (up2 (up2 (up2 f 0 (Dn) p1) 1 (Dn) p2) 2 (Dn) p3) ah bk bo mv T Dv C 0 mo) rfl dX2_door_84 (fun H locs hP hD hS => ?_)
                    refine lv_aload_n hx hb dX2_door_85 rfl (lv_at hl 0 rfl) ?_
                    refine va_get (D := D) (ci := 2) (v := .ref (ad 4)) (C := RX2) (T := TX2) (N := 21) hx hb hts inX2 hown hK hP 0 rfl rfl 5 (by decide) fl23 (fun _ h9 => h9) rfl dX2_door_86 ?_
                    refine lv_aload_n hx hb dX2_door_89 rfl (lv_at hl 0 rfl) ?_
                    refine va_get (D := D) (ci := 2) (v := .int Dv) (C := RX2) (T := TX2) (N := 21) hx hb hts inX2 hown hK hP 0 rfl rfl 1 (by decide) fl69 (fun _ h9 => h9) rfl dX2_door_90 ?_
                    refine lv_iload hx hb dX2_door_93 (lv_at hl 4 rfl) ?_
                    refine c_iast hx hb hK hP hD hS 4 0 rfl rfl (Dn) (by omega) (by omega) (WM cI ad (up2 (up2 (up2 (up2 f 0 (Dn) p1) 1 (Dn) p2) 2 (Dn) p3) 3 (Dn) p4) ah bk bo mv T Dv C 0 mo) rfl dX2_door_95 (fun H locs hP hD hS => ?_)
                    refine lv_aload_n hx hb dX2_door_96 rfl (lv_at hl 0 rfl) ?_
                    refine lv_dup hx hb dX2_door_97 rfl ?_
                    refine va_get (D := D) (ci := 2) (v := .int Dv) (C := RX2) (T := TX2) (N := 21) hx hb hts inX2 hown hK hP 0 rfl rfl 1 (by decide) fl69 (fun _ h9 => h9) rfl dX2_door_98 ?_
                    refine c_iconst hx hb dX2_door_101 (by decide) (fun v101 i101 => ?_)
                    refine c_iadd hx hb dX2_door_102 (by omega) (fun v102 i102 => ?_)
                    refine c_put (D := D) (ci := 2) (C := RX2) (T := TX2) (N := 21) hx hb hts inX2 tyX2 tyX2_ok nmX2 hown hK hP hD hS 0 rfl rfl 1 (by decide) fl69 (fun _ h9 => h9) rfl (by decide +kernel) (Nat.le_of_ble_eq_true rfl) (WM cI ad (up2 (up2 (up2 (up2 f 0 (Dn) p1) 1 (Dn) p2) 2 (Dn) p3) 3 (Dn) p4) ah bk bo mv T v102 C 0 mo) rfl dX2_door_103 (fun H locs hP hD hS => ?_)
                    refine lv_aload_n hx hb dX2_door_106 rfl (lv_at hl 0 rfl) ?_
                    refine va_get (D := D) (ci := 2) (v := .int v102) (C := RX2) (T := TX2) (N := 21) hx hb hts inX2 hown hK hP 0 rfl rfl 1 (by decide) fl69 (fun _ h9 => h9) rfl dX2_door_107 ?_
                    refine c_iconst hx hb dX2_door_110 (by decide) (fun v110 i110 => ?_)
                    refine c_isub hx hb dX2_door_111 (by omega) (fun v111 i111 => ?_)
                    exact c_ri ((up2 (up2 (up2 (up2 f 0 (Dn) p1) 1 (Dn) p2) 2 (Dn) p3) 3 (Dn) p4), v102) hx hb hr hlocks hK hP hD hS dX2_door_112 (Or.inl ⟨by omega, by omega, rfl, by (try dsimp only); omega⟩)
                  · skip
                    refine c_iconst hx hb dX2_door_53 (by decide) (fun v53_9 i53_9 => ?_)
                    exact c_ri (f, Dv) hx hb hr hlocks hK hP hD hS dX2_door_54 (Or.inr ⟨by omega, by omega, rfl⟩)
set_option maxHeartbeats 4000000 in
set_option maxRecDepth 100000 in
theorem kX2_isRow (l : Launch) (D : va_G) (cI : ClassId) (ad : Nat → Nat) (f : Nat → Nat → Int32) (ah : Nat → Int32) (bk : Nat → Int32) (bo : Nat → Int32) (mv : Nat → Int32) (T : Int32) (Dv : Int32) (C : Int32) (th : Int32) (mo : Int32) (Tn : Nat) (Dn : Nat) (Cn : Nat) (p1 : Int32) (p2 : Int32) (hT : T.toInt = (Tn : Int)) (hDv : Dv.toInt = (Dn : Int)) (hC : C.toInt = (Cn : Int)) (hI : Inv f Tn Dn Cn) : MI l yX2_isRow wsX2_isRow ({ frames := 0, cells := 0, slots := 0, locals := 0 } : Room) D [(cI, .int)] [.ref (ad 0), .int p1, .int p2] (WM cI ad f ah bk bo mv T Dv C th mo) (fun u : Unit => (WM cI ad f ah bk bo mv T Dv C th mo)) (fun (r : Int32) (_ : Unit) => ((r.toInt = 1 ∧ ((0 ≤ p1.toInt ∧ p1.toInt < (Dn : Int)) ∧ (0 ≤ p2.toInt ∧ p2.toInt < (Tn : Int)))) ∨ (r.toInt = 0 ∧ ¬ ((0 ≤ p1.toInt ∧ p1.toInt < (Dn : Int)) ∧ (0 ≤ p2.toInt ∧ p2.toInt < (Tn : Int)))))) := by
  refine c_ent (cc := cX2_isRow) (maxL := 3) (ret := (some .boolean)) (Qc := fun A => va_Qi (fun (r : Int32) (_ : Unit) => ((r.toInt = 1 ∧ ((0 ≤ p1.toInt ∧ p1.toInt < (Dn : Int)) ∧ (0 ≤ p2.toInt ∧ p2.toInt < (Tn : Int)))) ∨ (r.toInt = 0 ∧ ¬ ((0 ≤ p1.toInt ∧ p1.toInt < (Dn : Int)) ∧ (0 ≤ p2.toInt ∧ p2.toInt < (Tn : Int)))))) (cB D [(cI, .int)] A (fun u : Unit => (WM cI ad f ah bk bo mv T Dv C th mo))) A) (by decide) rfl (Nat.le_of_ble_eq_true rfl) ?_
  intro p e s m below meth c A ls hx hb hr hlocks hts hown hml hK hP hD hA hl
  have hS : va_S A s.heap s.heap [] := va_S.rf
  have hl : lv_has ls 3 [(0, .ref (ad 0)), (1, .int p1), (2, .int p2)] := hl
  have hP : va_P D vwCl (WM cI ad f ah bk bo mv T Dv C th mo) s.heap := hP
  have fl7 := hts (.fieldLink RX2 7 "DoorBenchModel" "ticks" "I") (by decide +kernel)
  have fl69 := hts (.fieldLink RX2 69 "DoorBenchModel" "doors" "I") (by decide +kernel)
  have inX2 : ∀ w ∈ wsX20, w ∈ wsX2_isRow := by decide +kernel
  obtain ⟨hI0, hId, hIr, hIs, hIc⟩ := id hI
  refine lv_iload_n hx hb dX2_isRow_0 rfl (lv_at hl 1 rfl) ?_
  refine c_if_lt (tgt := 28) hx hb dX2_isRow_1 (by decide) (fun c1 => ?_) (fun c1 => ?_)
  · skip
    refine c_iconst hx hb dX2_isRow_28 (by decide) (fun v28 i28 => ?_)
    exact c_rz () hx hb hr hlocks hK hP hD hS dX2_isRow_29 (by omega) (by (try dsimp only); omega)
  · skip
    refine lv_iload_n hx hb dX2_isRow_4 rfl (lv_at hl 1 rfl) ?_
    refine lv_aload_n hx hb dX2_isRow_5 rfl (lv_at hl 0 rfl) ?_
    refine va_get (D := D) (ci := 2) (v := .int Dv) (C := RX2) (T := TX2) (N := 21) hx hb hts inX2 hown hK hP 0 rfl rfl 1 (by decide) fl69 (fun _ h9 => h9) rfl dX2_isRow_6 ?_
    refine c_icmp_ge (tgt := 28) hx hb dX2_isRow_9 (by decide) (fun c9 => ?_) (fun c9 => ?_)
    · skip
      refine c_iconst hx hb dX2_isRow_28 (by decide) (fun v28_2 i28_2 => ?_)
      exact c_rz () hx hb hr hlocks hK hP hD hS dX2_isRow_29 (by omega) (by (try dsimp only); omega)
    · skip
      refine lv_iload_n hx hb dX2_isRow_12 rfl (lv_at hl 2 rfl) ?_
      refine c_if_lt (tgt := 28) hx hb dX2_isRow_13 (by decide) (fun c13 => ?_) (fun c13 => ?_)
      · skip
        refine c_iconst hx hb dX2_isRow_28 (by decide) (fun v28_3 i28_3 => ?_)
        exact c_rz () hx hb hr hlocks hK hP hD hS dX2_isRow_29 (by omega) (by (try dsimp only); omega)
      · skip
        refine lv_iload_n hx hb dX2_isRow_16 rfl (lv_at hl 2 rfl) ?_
        refine lv_aload_n hx hb dX2_isRow_17 rfl (lv_at hl 0 rfl) ?_
        refine va_get (D := D) (ci := 2) (v := .int T) (C := RX2) (T := TX2) (N := 21) hx hb hts inX2 hown hK hP 0 rfl rfl 0 (by decide) fl7 (fun _ h9 => h9) rfl dX2_isRow_18 ?_
        refine c_icmp_ge (tgt := 28) hx hb dX2_isRow_21 (by decide) (fun c21 => ?_) (fun c21 => ?_)
        · skip
          refine c_iconst hx hb dX2_isRow_28 (by decide) (fun v28_4 i28_4 => ?_)
          exact c_rz () hx hb hr hlocks hK hP hD hS dX2_isRow_29 (by omega) (by (try dsimp only); omega)
        · skip
          refine c_iconst hx hb dX2_isRow_24 (by decide) (fun v24 i24 => ?_)
          refine lv_goto (tgt := 29) hx hb dX2_isRow_25 (by decide) ?_
          exact c_rz () hx hb hr hlocks hK hP hD hS dX2_isRow_29 (by omega) (by (try dsimp only); omega)
set_option maxHeartbeats 4000000 in
set_option maxRecDepth 100000 in
theorem kX2_row (l : Launch) (D : va_G) (cI : ClassId) (ad : Nat → Nat) (f : Nat → Nat → Int32) (ah : Nat → Int32) (bk : Nat → Int32) (bo : Nat → Int32) (mv : Nat → Int32) (T : Int32) (Dv : Int32) (C : Int32) (th : Int32) (mo : Int32) (Tn : Nat) (Dn : Nat) (Cn : Nat) (p1 : Int32) (p2 : Int32) (p3 : Int32) (p4 : Int32) (hT : T.toInt = (Tn : Int)) (hDv : Dv.toInt = (Dn : Int)) (hC : C.toInt = (Cn : Int)) (hI : Inv f Tn Dn Cn) : MI l yX2_row wsX2_row ({ frames := 1, cells := 0, slots := 0, locals := 22 } : Room) D [(cI, .int)] [.ref (ad 0), .int p1, .int p2, .int p3, .int p4] (WM cI ad f ah bk bo mv T Dv C th mo) (fun u : Nat → Nat → Int32 => (WM cI ad u ah bk bo mv T Dv C 0 mo)) (fun (r : Int32) (u : Nat → Nat → Int32) => ((((0 ≤ p1.toInt ∧ p1.toInt < (Dn : Int)) ∧ (0 ≤ p2.toInt ∧ p2.toInt < (Tn : Int)) ∧ (0 ≤ p3.toInt ∧ p3.toInt ≤ 20) ∧ (0 ≤ p4.toInt ∧ p4.toInt ≤ 20)) ∧ r.toInt = 1 ∧ u = rowF f (60 * p1.toInt.toNat + p2.toInt.toNat) p3 p4) ∨ (¬ ((0 ≤ p1.toInt ∧ p1.toInt < (Dn : Int)) ∧ (0 ≤ p2.toInt ∧ p2.toInt < (Tn : Int)) ∧ (0 ≤ p3.toInt ∧ p3.toInt ≤ 20) ∧ (0 ≤ p4.toInt ∧ p4.toInt ≤ 20)) ∧ r.toInt = 0 ∧ u = f))) := by
  refine c_ent (cc := cX2_row) (maxL := 5) (ret := (some .boolean)) (Qc := fun A => va_Qi (fun (r : Int32) (u : Nat → Nat → Int32) => ((((0 ≤ p1.toInt ∧ p1.toInt < (Dn : Int)) ∧ (0 ≤ p2.toInt ∧ p2.toInt < (Tn : Int)) ∧ (0 ≤ p3.toInt ∧ p3.toInt ≤ 20) ∧ (0 ≤ p4.toInt ∧ p4.toInt ≤ 20)) ∧ r.toInt = 1 ∧ u = rowF f (60 * p1.toInt.toNat + p2.toInt.toNat) p3 p4) ∨ (¬ ((0 ≤ p1.toInt ∧ p1.toInt < (Dn : Int)) ∧ (0 ≤ p2.toInt ∧ p2.toInt < (Tn : Int)) ∧ (0 ≤ p3.toInt ∧ p3.toInt ≤ 20) ∧ (0 ≤ p4.toInt ∧ p4.toInt ≤ 20)) ∧ r.toInt = 0 ∧ u = f))) (cB D [(cI, .int)] A (fun u : Nat → Nat → Int32 => (WM cI ad u ah bk bo mv T Dv C 0 mo))) A) (by decide) rfl (Nat.le_of_ble_eq_true rfl) ?_
  intro p e s m below meth c A ls hx hb hr hlocks hts hown hml hK hP hD hA hl
  have hS : va_S A s.heap s.heap [] := va_S.rf
  have hl : lv_has ls 5 [(0, .ref (ad 0)), (1, .int p1), (2, .int p2), (3, .int p3), (4, .int p4)] := hl
  have hP : va_P D vwCl (WM cI ad f ah bk bo mv T Dv C th mo) s.heap := hP
  have fl26 := hts (.fieldLink RX2 26 "DoorBenchModel" "in" "[I") (by decide +kernel)
  have fl29 := hts (.fieldLink RX2 29 "DoorBenchModel" "out" "[I") (by decide +kernel)
  have fl66 := hts (.fieldLink RX2 66 "DoorBenchModel" "thrown" "I") (by decide +kernel)
  have inX2 : ∀ w ∈ wsX20, w ∈ wsX2_row := by decide +kernel
  obtain ⟨hI0, hId, hIr, hIs, hIc⟩ := id hI
  refine lv_aload_n hx hb dX2_row_0 rfl (lv_at hl 0 rfl) ?_
  refine c_iconst hx hb dX2_row_1 (by decide) (fun v1 i1 => ?_)
  obtain rfl : v1 = 0 := t_inj (by rw [i1]; rfl)
  refine c_put (D := D) (ci := 2) (C := RX2) (T := TX2) (N := 21) hx hb hts inX2 tyX2 tyX2_ok nmX2 hown hK hP hD hS 0 rfl rfl 15 (by decide) fl66 (fun _ h9 => h9) rfl (by decide +kernel) (Nat.le_of_ble_eq_true rfl) (WM cI ad f ah bk bo mv T Dv C 0 mo) rfl dX2_row_2 (fun H locs hP hD hS => ?_)
  refine lv_aload_n hx hb dX2_row_5 rfl (lv_at hl 0 rfl) ?_
  refine lv_iload_n hx hb dX2_row_6 rfl (lv_at hl 1 rfl) ?_
  refine lv_iload_n hx hb dX2_row_7 rfl (lv_at hl 2 rfl) ?_
  refine c_wvi (As := [.int p1, .int p2]) (ci := 2) (q0 := 0) (kX2_isRow l D cI ad f ah bk bo mv T Dv C 0 mo Tn Dn Cn p1 p2 hT hDv hC hI) ⟨hx, hb, hml, hown, hts⟩ (cwV 2 hts gX2_row_X2_isRow rfl rfl rfl (by decide +kernel) ⟨Nat.le_of_ble_eq_true rfl, Nat.le_of_ble_eq_true rfl⟩) hK hP hD hS hA rfl rfl rfl rfl hl.1 rfl (Nat.le_of_ble_eq_true rfl) dX2_row_8 ⟨Nat.zero_le _, Nat.zero_le _⟩ (fun r8 u8 H locs q8 hP hD hS => ?_)
  try dsimp only at q8
  have hP : va_P D vwCl (WM cI ad f ah bk bo mv T Dv C 0 mo) H := hP
  have hD : va_D A (WM cI ad f ah bk bo mv T Dv C 0 mo) := hD
  refine c_if_eq (tgt := 36) hx hb dX2_row_11 (by decide) (fun c11 => ?_) (fun c11 => ?_)
  · skip
    refine c_iconst hx hb dX2_row_36 (by decide) (fun v36 i36 => ?_)
    exact c_rz f hx hb hr hlocks hK hP hD hS dX2_row_37 (by omega) (Or.inr ⟨by omega, by omega, rfl⟩)
  · skip
    refine lv_iload_n hx hb dX2_row_14 rfl (lv_at hl 3 rfl) ?_
    refine c_if_lt (tgt := 36) hx hb dX2_row_15 (by decide) (fun c15 => ?_) (fun c15 => ?_)
    · skip
      refine c_iconst hx hb dX2_row_36 (by decide) (fun v36_2 i36_2 => ?_)
      exact c_rz f hx hb hr hlocks hK hP hD hS dX2_row_37 (by omega) (Or.inr ⟨by omega, by omega, rfl⟩)
    · skip
      refine lv_iload_n hx hb dX2_row_18 rfl (lv_at hl 3 rfl) ?_
      refine c_bipush hx hb dX2_row_19 (by decide) (fun v19 i19 => ?_)
      refine c_icmp_gt (tgt := 36) hx hb dX2_row_21 (by decide) (fun c21 => ?_) (fun c21 => ?_)
      · skip
        refine c_iconst hx hb dX2_row_36 (by decide) (fun v36_3 i36_3 => ?_)
        exact c_rz f hx hb hr hlocks hK hP hD hS dX2_row_37 (by omega) (Or.inr ⟨by omega, by omega, rfl⟩)
      · skip
        refine lv_iload hx hb dX2_row_24 (lv_at hl 4 rfl) ?_
        refine c_if_lt (tgt := 36) hx hb dX2_row_26 (by decide) (fun c26 => ?_) (fun c26 => ?_)
        · skip
          refine c_iconst hx hb dX2_row_36 (by decide) (fun v36_4 i36_4 => ?_)
          exact c_rz f hx hb hr hlocks hK hP hD hS dX2_row_37 (by omega) (Or.inr ⟨by omega, by omega, rfl⟩)
        · skip
          refine lv_iload hx hb dX2_row_29 (lv_at hl 4 rfl) ?_
          refine c_bipush hx hb dX2_row_31 (by decide) (fun v31 i31 => ?_)
          refine c_icmp_le (tgt := 38) hx hb dX2_row_33 (by decide) (fun c33 => ?_) (fun c33 => ?_)
          · skip
            refine lv_aload_n hx hb dX2_row_38 rfl (lv_at hl 0 rfl) ?_
            refine va_get (D := D) (ci := 2) (v := .ref (ad 5)) (C := RX2) (T := TX2) (N := 21) hx hb hts inX2 hown hK hP 0 rfl rfl 6 (by decide) fl26 (fun _ h9 => h9) rfl dX2_row_39 ?_
            refine c_bipush hx hb dX2_row_42 (by decide) (fun v42 i42 => ?_)
            refine lv_iload_n hx hb dX2_row_44 rfl (lv_at hl 1 rfl) ?_
            refine c_imul (a := 60) (b := p1.toInt) hx hb dX2_row_45 (by omega) rfl (by omega) (fun v45 i45 => ?_)
            refine lv_iload_n hx hb dX2_row_46 rfl (lv_at hl 2 rfl) ?_
            refine c_iadd hx hb dX2_row_47 (by omega) (fun v47 i47 => ?_)
            refine lv_iload_n hx hb dX2_row_48 rfl (lv_at hl 3 rfl) ?_
            refine c_iast hx hb hK hP hD hS 5 0 rfl rfl (60 * p1.toInt.toNat + p2.toInt.toNat) (by omega) (by omega) (WM cI ad (up2 f 4 (60 * p1.toInt.toNat + p2.toInt.toNat) p3) ah bk bo mv T Dv C 0 mo) rfl dX2_row_49 (fun H locs hP hD hS => ?_)
            refine lv_aload_n hx hb dX2_row_50 rfl (lv_at hl 0 rfl) ?_
            refine va_get (D := D) (ci := 2) (v := .ref (ad 6)) (C := RX2) (T := TX2) (N := 21) hx hb hts inX2 hown hK hP 0 rfl rfl 7 (by decide) fl29 (fun _ h9 => h9) rfl dX2_row_51 ?_
            refine c_bipush hx hb dX2_row_54 (by decide) (fun v54 i54 => ?_)
            refine lv_iload_n hx hb dX2_row_56 rfl (lv_at hl 1 rfl) ?_
            refine c_imul (a := 60) (b := p1.toInt) hx hb dX2_row_57 (by omega) rfl (by omega) (fun v57 i57 => ?_)
            refine lv_iload_n hx hb dX2_row_58 rfl (lv_at hl 2 rfl) ?_
            refine c_iadd hx hb dX2_row_59 (by omega) (fun v59 i59 => ?_)
            refine lv_iload hx hb dX2_row_60 (lv_at hl 4 rfl) ?_
            refine c_iast hx hb hK hP hD hS 6 0 rfl rfl (60 * p1.toInt.toNat + p2.toInt.toNat) (by omega) (by omega) (WM cI ad (up2 (up2 f 4 (60 * p1.toInt.toNat + p2.toInt.toNat) p3) 5 (60 * p1.toInt.toNat + p2.toInt.toNat) p4) ah bk bo mv T Dv C 0 mo) rfl dX2_row_62 (fun H locs hP hD hS => ?_)
            refine c_iconst hx hb dX2_row_63 (by decide) (fun v63 i63 => ?_)
            exact c_rz (up2 (up2 f 4 (60 * p1.toInt.toNat + p2.toInt.toNat) p3) 5 (60 * p1.toInt.toNat + p2.toInt.toNat) p4) hx hb hr hlocks hK hP hD hS dX2_row_64 (by omega) (Or.inl ⟨by omega, by omega, rfl⟩)
          · skip
            refine c_iconst hx hb dX2_row_36 (by decide) (fun v36_5 i36_5 => ?_)
            exact c_rz f hx hb hr hlocks hK hP hD hS dX2_row_37 (by omega) (Or.inr ⟨by omega, by omega, rfl⟩)
set_option maxHeartbeats 4000000 in
set_option maxRecDepth 100000 in
theorem kX2_lack (l : Launch) (D : va_G) (cI : ClassId) (ad : Nat → Nat) (f : Nat → Nat → Int32) (ah : Nat → Int32) (bk : Nat → Int32) (bo : Nat → Int32) (mv : Nat → Int32) (T : Int32) (Dv : Int32) (C : Int32) (th : Int32) (mo : Int32) (Tn : Nat) (Dn : Nat) (Cn : Nat) (p1 : Int32) (p2 : Int32) (p3 : Int32) (hT : T.toInt = (Tn : Int)) (hDv : Dv.toInt = (Dn : Int)) (hC : C.toInt = (Cn : Int)) (hI : Inv f Tn Dn Cn) : MI l yX2_lack wsX2_lack ({ frames := 1, cells := 0, slots := 0, locals := 22 } : Room) D [(cI, .int)] [.ref (ad 0), .int p1, .int p2, .int p3] (WM cI ad f ah bk bo mv T Dv C th mo) (fun u : Nat → Nat → Int32 => (WM cI ad u ah bk bo mv T Dv C 0 mo)) (fun (r : Int32) (u : Nat → Nat → Int32) => ((((0 ≤ p1.toInt ∧ p1.toInt < (Dn : Int)) ∧ (0 ≤ p2.toInt ∧ p2.toInt < (Tn : Int)) ∧ (0 ≤ p3.toInt ∧ p3.toInt < (Tn : Int)) ∧ p2.toInt ≤ p3.toInt) ∧ r.toInt = 1 ∧ u = lck f p1.toInt.toNat p2.toInt.toNat (p3.toInt.toNat + 1 - p2.toInt.toNat)) ∨ (¬ ((0 ≤ p1.toInt ∧ p1.toInt < (Dn : Int)) ∧ (0 ≤ p2.toInt ∧ p2.toInt < (Tn : Int)) ∧ (0 ≤ p3.toInt ∧ p3.toInt < (Tn : Int)) ∧ p2.toInt ≤ p3.toInt) ∧ r.toInt = 0 ∧ u = f))) := by
  refine c_ent (cc := cX2_lack) (maxL := 5) (ret := (some .boolean)) (Qc := fun A => va_Qi (fun (r : Int32) (u : Nat → Nat → Int32) => ((((0 ≤ p1.toInt ∧ p1.toInt < (Dn : Int)) ∧ (0 ≤ p2.toInt ∧ p2.toInt < (Tn : Int)) ∧ (0 ≤ p3.toInt ∧ p3.toInt < (Tn : Int)) ∧ p2.toInt ≤ p3.toInt) ∧ r.toInt = 1 ∧ u = lck f p1.toInt.toNat p2.toInt.toNat (p3.toInt.toNat + 1 - p2.toInt.toNat)) ∨ (¬ ((0 ≤ p1.toInt ∧ p1.toInt < (Dn : Int)) ∧ (0 ≤ p2.toInt ∧ p2.toInt < (Tn : Int)) ∧ (0 ≤ p3.toInt ∧ p3.toInt < (Tn : Int)) ∧ p2.toInt ≤ p3.toInt) ∧ r.toInt = 0 ∧ u = f))) (cB D [(cI, .int)] A (fun u : Nat → Nat → Int32 => (WM cI ad u ah bk bo mv T Dv C 0 mo))) A) (by decide) rfl (Nat.le_of_ble_eq_true rfl) ?_
  intro p e s m below meth c A ls hx hb hr hlocks hts hown hml hK hP hD hA hl
  have hS : va_S A s.heap s.heap [] := va_S.rf
  have hl : lv_has ls 5 [(0, .ref (ad 0)), (1, .int p1), (2, .int p2), (3, .int p3)] := hl
  have hP : va_P D vwCl (WM cI ad f ah bk bo mv T Dv C th mo) s.heap := hP
  have fl26 := hts (.fieldLink RX2 26 "DoorBenchModel" "in" "[I") (by decide +kernel)
  have fl29 := hts (.fieldLink RX2 29 "DoorBenchModel" "out" "[I") (by decide +kernel)
  have fl66 := hts (.fieldLink RX2 66 "DoorBenchModel" "thrown" "I") (by decide +kernel)
  have inX2 : ∀ w ∈ wsX20, w ∈ wsX2_lack := by decide +kernel
  obtain ⟨hI0, hId, hIr, hIs, hIc⟩ := id hI
  refine lv_aload_n hx hb dX2_lack_0 rfl (lv_at hl 0 rfl) ?_
  refine c_iconst hx hb dX2_lack_1 (by decide) (fun v1 i1 => ?_)
  obtain rfl : v1 = 0 := t_inj (by rw [i1]; rfl)
  refine c_put (D := D) (ci := 2) (C := RX2) (T := TX2) (N := 21) hx hb hts inX2 tyX2 tyX2_ok nmX2 hown hK hP hD hS 0 rfl rfl 15 (by decide) fl66 (fun _ h9 => h9) rfl (by decide +kernel) (Nat.le_of_ble_eq_true rfl) (WM cI ad f ah bk bo mv T Dv C 0 mo) rfl dX2_lack_2 (fun H locs hP hD hS => ?_)
  refine lv_aload_n hx hb dX2_lack_5 rfl (lv_at hl 0 rfl) ?_
  refine lv_iload_n hx hb dX2_lack_6 rfl (lv_at hl 1 rfl) ?_
  refine lv_iload_n hx hb dX2_lack_7 rfl (lv_at hl 2 rfl) ?_
  refine c_wvi (As := [.int p1, .int p2]) (ci := 2) (q0 := 0) (kX2_isRow l D cI ad f ah bk bo mv T Dv C 0 mo Tn Dn Cn p1 p2 hT hDv hC hI) ⟨hx, hb, hml, hown, hts⟩ (cwV 2 hts gX2_lack_X2_isRow rfl rfl rfl (by decide +kernel) ⟨Nat.le_of_ble_eq_true rfl, Nat.le_of_ble_eq_true rfl⟩) hK hP hD hS hA rfl rfl rfl rfl hl.1 rfl (Nat.le_of_ble_eq_true rfl) dX2_lack_8 ⟨Nat.zero_le _, Nat.zero_le _⟩ (fun r8 u8 H locs q8 hP hD hS => ?_)
  try dsimp only at q8
  have hP : va_P D vwCl (WM cI ad f ah bk bo mv T Dv C 0 mo) H := hP
  have hD : va_D A (WM cI ad f ah bk bo mv T Dv C 0 mo) := hD
  refine c_if_eq (tgt := 28) hx hb dX2_lack_11 (by decide) (fun c11 => ?_) (fun c11 => ?_)
  · skip
    refine c_iconst hx hb dX2_lack_28 (by decide) (fun v28 i28 => ?_)
    exact c_rz f hx hb hr hlocks hK hP hD hS dX2_lack_29 (by omega) (Or.inr ⟨by omega, by omega, rfl⟩)
  · skip
    refine lv_aload_n hx hb dX2_lack_14 rfl (lv_at hl 0 rfl) ?_
    refine lv_iload_n hx hb dX2_lack_15 rfl (lv_at hl 1 rfl) ?_
    refine lv_iload_n hx hb dX2_lack_16 rfl (lv_at hl 3 rfl) ?_
    refine c_wvi (As := [.int p1, .int p3]) (ci := 2) (q0 := 0) (kX2_isRow l D cI ad f ah bk bo mv T Dv C 0 mo Tn Dn Cn p1 p3 hT hDv hC hI) ⟨hx, hb, hml, hown, hts⟩ (cwV 2 hts gX2_lack_X2_isRow rfl rfl rfl (by decide +kernel) ⟨Nat.le_of_ble_eq_true rfl, Nat.le_of_ble_eq_true rfl⟩) hK hP hD hS hA rfl rfl rfl rfl hl.1 rfl (Nat.le_of_ble_eq_true rfl) dX2_lack_17 ⟨Nat.zero_le _, Nat.zero_le _⟩ (fun r17 u17 H locs q17 hP hD hS => ?_)
    try dsimp only at q17
    have hP : va_P D vwCl (WM cI ad f ah bk bo mv T Dv C 0 mo) H := hP
    have hD : va_D A (WM cI ad f ah bk bo mv T Dv C 0 mo) := hD
    refine c_if_eq (tgt := 28) hx hb dX2_lack_20 (by decide) (fun c20 => ?_) (fun c20 => ?_)
    · skip
      refine c_iconst hx hb dX2_lack_28 (by decide) (fun v28_2 i28_2 => ?_)
      exact c_rz f hx hb hr hlocks hK hP hD hS dX2_lack_29 (by omega) (Or.inr ⟨by omega, by omega, rfl⟩)
    · skip
      refine lv_iload_n hx hb dX2_lack_23 rfl (lv_at hl 2 rfl) ?_
      refine lv_iload_n hx hb dX2_lack_24 rfl (lv_at hl 3 rfl) ?_
      refine c_icmp_le (tgt := 30) hx hb dX2_lack_25 (by decide) (fun c25 => ?_) (fun c25 => ?_)
      · skip
        refine lv_iload_n hx hb dX2_lack_30 rfl (lv_at hl 2 rfl) ?_
        refine lv_istore (lv' := [(4, .int p2), (0, .ref (ad 0)), (1, .int p1), (2, .int p2), (3, .int p3)]) hx hb dX2_lack_31 hl (by decide) rfl (fun ls hl => ?_)
        have HL33 : ∀ (n : Nat) (k : Nat) (x4 : Int32) (f1 : Nat → Nat → Int32) (H : Heap) (locs : List Loc) (ls : Array Slot), (x4.toInt = (p2.toInt.toNat : Int) + (k : Int)) → (k ≤ p3.toInt.toNat + 1 - p2.toInt.toNat) → (p3.toInt.toNat + 2 ≤ p2.toInt.toNat + k + n) → (f1 = lck f p1.toInt.toNat p2.toInt.toNat k) → va_P D vwCl (WM cI ad f1 ah bk bo mv T Dv C 0 mo) H → va_D A (WM cI ad f1 ah bk bo mv T Dv C 0 mo) → va_S A s.heap H locs → lv_has ls 5 [(0, .ref (ad 0)), (1, .int p1), (2, .int p2), (3, .int p3), (4, .int x4)] → W p l e ({ frames := 1, cells := 0, slots := 0, locals := 22 } : Room) s m [.ref (ad 0), .int p1, .int p2, .int p3].toArray below meth c H locs 0 0 (MQ below (va_Qi (fun (r : Int32) (u : Nat → Nat → Int32) => ((((0 ≤ p1.toInt ∧ p1.toInt < (Dn : Int)) ∧ (0 ≤ p2.toInt ∧ p2.toInt < (Tn : Int)) ∧ (0 ≤ p3.toInt ∧ p3.toInt < (Tn : Int)) ∧ p2.toInt ≤ p3.toInt) ∧ r.toInt = 1 ∧ u = lck f p1.toInt.toNat p2.toInt.toNat (p3.toInt.toNat + 1 - p2.toInt.toNat)) ∨ (¬ ((0 ≤ p1.toInt ∧ p1.toInt < (Dn : Int)) ∧ (0 ≤ p2.toInt ∧ p2.toInt < (Tn : Int)) ∧ (0 ≤ p3.toInt ∧ p3.toInt < (Tn : Int)) ∧ p2.toInt ≤ p3.toInt) ∧ r.toInt = 0 ∧ u = f))) (cB D [(cI, .int)] A (fun u : Nat → Nat → Int32 => (WM cI ad u ah bk bo mv T Dv C 0 mo))) A) [.ref (ad 0), .int p1, .int p2, .int p3].toArray s 0 0 A) (F0 m 33 ls []) := by
          intro n
          induction n with
          | zero => intro k x4 f1 H locs ls hx4 hk hms hf1; exact absurd hms (by omega)
          | succ n ih33 =>
            intro k x4 f1 H locs ls hx4 hk hms hf1 hP hD hS hl
            refine lv_iload hx hb dX2_lack_33 (lv_at hl 4 rfl) ?_
            refine lv_iload_n hx hb dX2_lack_35 rfl (lv_at hl 3 rfl) ?_
            refine c_icmp_gt (tgt := 71) hx hb dX2_lack_36 (by decide) (fun c36 => ?_) (fun c36 => ?_)
            · skip
              refine c_iconst hx hb dX2_lack_71 (by decide) (fun v71 i71 => ?_)
              exact c_rz f1 hx hb hr hlocks hK hP hD hS dX2_lack_72 (by omega) (by
                      have hkk : k = p3.toInt.toNat + 1 - p2.toInt.toNat := by omega
                      exact Or.inl ⟨by omega, by omega, by rw [hf1, hkk]⟩)
            · skip
              refine lv_aload_n hx hb dX2_lack_39 rfl (lv_at hl 0 rfl) ?_
              refine va_get (D := D) (ci := 2) (v := .ref (ad 5)) (C := RX2) (T := TX2) (N := 21) hx hb hts inX2 hown hK hP 0 rfl rfl 6 (by decide) fl26 (fun _ h9 => h9) rfl dX2_lack_40 ?_
              refine c_bipush hx hb dX2_lack_43 (by decide) (fun v43 i43 => ?_)
              refine lv_iload_n hx hb dX2_lack_45 rfl (lv_at hl 1 rfl) ?_
              refine c_imul (a := 60) (b := p1.toInt) hx hb dX2_lack_46 (by omega) rfl (by omega) (fun v46 i46 => ?_)
              refine lv_iload hx hb dX2_lack_47 (lv_at hl 4 rfl) ?_
              refine c_iadd hx hb dX2_lack_49 (by omega) (fun v49 i49 => ?_)
              refine c_iconst hx hb dX2_lack_50 (by decide) (fun v50 i50 => ?_)
              refine c_iast hx hb hK hP hD hS 5 0 rfl rfl (60 * p1.toInt.toNat + (p2.toInt.toNat + k)) (by omega) (by omega) (WM cI ad (up2 f1 4 (60 * p1.toInt.toNat + (p2.toInt.toNat + k)) v50) ah bk bo mv T Dv C 0 mo) rfl dX2_lack_51 (fun H locs hP hD hS => ?_)
              refine lv_aload_n hx hb dX2_lack_52 rfl (lv_at hl 0 rfl) ?_
              refine va_get (D := D) (ci := 2) (v := .ref (ad 6)) (C := RX2) (T := TX2) (N := 21) hx hb hts inX2 hown hK hP 0 rfl rfl 7 (by decide) fl29 (fun _ h9 => h9) rfl dX2_lack_53 ?_
              refine c_bipush hx hb dX2_lack_56 (by decide) (fun v56 i56 => ?_)
              refine lv_iload_n hx hb dX2_lack_58 rfl (lv_at hl 1 rfl) ?_
              refine c_imul (a := 60) (b := p1.toInt) hx hb dX2_lack_59 (by omega) rfl (by omega) (fun v59 i59 => ?_)
              refine lv_iload hx hb dX2_lack_60 (lv_at hl 4 rfl) ?_
              refine c_iadd hx hb dX2_lack_62 (by omega) (fun v62 i62 => ?_)
              refine c_iconst hx hb dX2_lack_63 (by decide) (fun v63 i63 => ?_)
              refine c_iast hx hb hK hP hD hS 6 0 rfl rfl (60 * p1.toInt.toNat + (p2.toInt.toNat + k)) (by omega) (by omega) (WM cI ad (up2 (up2 f1 4 (60 * p1.toInt.toNat + (p2.toInt.toNat + k)) v50) 5 (60 * p1.toInt.toNat + (p2.toInt.toNat + k)) v63) ah bk bo mv T Dv C 0 mo) rfl dX2_lack_64 (fun H locs hP hD hS => ?_)
              refine c_iinc (k := 4) hx hb (fun v65 => [(4, .int v65), (0, .ref (ad 0)), (1, .int p1), (2, .int p2), (3, .int p3)]) dX2_lack_65 hl rfl (by decide) (by omega) (by decide) (fun _ => rfl) (fun v65 ls i65 hl => ?_)
              have hl : lv_has ls 5 [(4, .int v65), (0, .ref (ad 0)), (1, .int p1), (2, .int p2), (3, .int p3)] := hl
              refine lv_goto (tgt := 33) hx hb dX2_lack_68 (by decide) ?_
              exact ih33 (k + 1) v65 (up2 (up2 f1 4 (60 * p1.toInt.toNat + (p2.toInt.toNat + k)) v50) 5 (60 * p1.toInt.toNat + (p2.toInt.toNat + k)) v63) _ _ _ (by omega) (by omega) (by omega) (by obtain rfl : v50 = -1 := t_inj (by rw [i50]; rfl); obtain rfl : v63 = -1 := t_inj (by rw [i63]; rfl); rw [hf1]; rfl) hP hD hS (lv_sub hl [1, 2, 3, 4, 0] rfl)
        exact HL33 (p3.toInt.toNat + 2) 0 p2 f _ _ _ (by omega) (by omega) (by omega) rfl hP hD hS (lv_sub hl [1, 2, 3, 4, 0] rfl)
      · skip
        refine c_iconst hx hb dX2_lack_28 (by decide) (fun v28_3 i28_3 => ?_)
        exact c_rz f hx hb hr hlocks hK hP hD hS dX2_lack_29 (by omega) (Or.inr ⟨by omega, by omega, rfl⟩)
set_option maxHeartbeats 4000000 in
set_option maxRecDepth 100000 in
theorem kX2_start (l : Launch) (D : va_G) (cI : ClassId) (ad : Nat → Nat) (f : Nat → Nat → Int32) (ah : Nat → Int32) (bk : Nat → Int32) (bo : Nat → Int32) (mv : Nat → Int32) (T : Int32) (Dv : Int32) (C : Int32) (th : Int32) (mo : Int32) (Tn : Nat) (Dn : Nat) (Cn : Nat) (p1 : Int32) (p2 : Int32) (p3 : Int32) (hT : T.toInt = (Tn : Int)) (hDv : Dv.toInt = (Dn : Int)) (hC : C.toInt = (Cn : Int)) (hI : Inv f Tn Dn Cn) : MI l yX2_start wsX2_start ({ frames := 0, cells := 0, slots := 0, locals := 0 } : Room) D [(cI, .int)] [.ref (ad 0), .int p1, .int p2, .int p3] (WM cI ad f ah bk bo mv T Dv C th mo) (fun u : Nat → Nat → Int32 => (WM cI ad u ah bk bo mv T Dv C 0 mo)) (fun (r : Int32) (u : Nat → Nat → Int32) => ((((0 ≤ p1.toInt ∧ p1.toInt ≤ 1) ∧ (0 ≤ p2.toInt ∧ p2.toInt ≤ p3.toInt ∧ p3.toInt ≤ 9999)) ∧ r.toInt = 1 ∧ u = staF f p1.toInt.toNat p2 p3) ∨ (¬ ((0 ≤ p1.toInt ∧ p1.toInt ≤ 1) ∧ (0 ≤ p2.toInt ∧ p2.toInt ≤ p3.toInt ∧ p3.toInt ≤ 9999)) ∧ r.toInt = 0 ∧ u = f))) := by
  refine c_ent (cc := cX2_start) (maxL := 4) (ret := (some .boolean)) (Qc := fun A => va_Qi (fun (r : Int32) (u : Nat → Nat → Int32) => ((((0 ≤ p1.toInt ∧ p1.toInt ≤ 1) ∧ (0 ≤ p2.toInt ∧ p2.toInt ≤ p3.toInt ∧ p3.toInt ≤ 9999)) ∧ r.toInt = 1 ∧ u = staF f p1.toInt.toNat p2 p3) ∨ (¬ ((0 ≤ p1.toInt ∧ p1.toInt ≤ 1) ∧ (0 ≤ p2.toInt ∧ p2.toInt ≤ p3.toInt ∧ p3.toInt ≤ 9999)) ∧ r.toInt = 0 ∧ u = f))) (cB D [(cI, .int)] A (fun u : Nat → Nat → Int32 => (WM cI ad u ah bk bo mv T Dv C 0 mo))) A) (by decide) rfl (Nat.le_of_ble_eq_true rfl) ?_
  intro p e s m below meth c A ls hx hb hr hlocks hts hown hml hK hP hD hA hl
  have hS : va_S A s.heap s.heap [] := va_S.rf
  have hl : lv_has ls 4 [(0, .ref (ad 0)), (1, .int p1), (2, .int p2), (3, .int p3)] := hl
  have hP : va_P D vwCl (WM cI ad f ah bk bo mv T Dv C th mo) s.heap := hP
  have fl32 := hts (.fieldLink RX2 32 "DoorBenchModel" "low" "[I") (by decide +kernel)
  have fl35 := hts (.fieldLink RX2 35 "DoorBenchModel" "high" "[I") (by decide +kernel)
  have fl66 := hts (.fieldLink RX2 66 "DoorBenchModel" "thrown" "I") (by decide +kernel)
  have inX2 : ∀ w ∈ wsX20, w ∈ wsX2_start := by decide +kernel
  obtain ⟨hI0, hId, hIr, hIs, hIc⟩ := id hI
  refine lv_aload_n hx hb dX2_start_0 rfl (lv_at hl 0 rfl) ?_
  refine c_iconst hx hb dX2_start_1 (by decide) (fun v1 i1 => ?_)
  obtain rfl : v1 = 0 := t_inj (by rw [i1]; rfl)
  refine c_put (D := D) (ci := 2) (C := RX2) (T := TX2) (N := 21) hx hb hts inX2 tyX2 tyX2_ok nmX2 hown hK hP hD hS 0 rfl rfl 15 (by decide) fl66 (fun _ h9 => h9) rfl (by decide +kernel) (Nat.le_of_ble_eq_true rfl) (WM cI ad f ah bk bo mv T Dv C 0 mo) rfl dX2_start_2 (fun H locs hP hD hS => ?_)
  refine lv_iload_n hx hb dX2_start_5 rfl (lv_at hl 1 rfl) ?_
  refine c_if_lt (tgt := 30) hx hb dX2_start_6 (by decide) (fun c6 => ?_) (fun c6 => ?_)
  · skip
    refine c_iconst hx hb dX2_start_30 (by decide) (fun v30 i30 => ?_)
    exact c_rz f hx hb hr hlocks hK hP hD hS dX2_start_31 (by omega) (Or.inr ⟨by omega, by omega, rfl⟩)
  · skip
    refine lv_iload_n hx hb dX2_start_9 rfl (lv_at hl 1 rfl) ?_
    refine c_iconst hx hb dX2_start_10 (by decide) (fun v10 i10 => ?_)
    refine c_icmp_gt (tgt := 30) hx hb dX2_start_11 (by decide) (fun c11 => ?_) (fun c11 => ?_)
    · skip
      refine c_iconst hx hb dX2_start_30 (by decide) (fun v30_2 i30_2 => ?_)
      exact c_rz f hx hb hr hlocks hK hP hD hS dX2_start_31 (by omega) (Or.inr ⟨by omega, by omega, rfl⟩)
    · skip
      refine lv_iload_n hx hb dX2_start_14 rfl (lv_at hl 2 rfl) ?_
      refine c_if_lt (tgt := 30) hx hb dX2_start_15 (by decide) (fun c15 => ?_) (fun c15 => ?_)
      · skip
        refine c_iconst hx hb dX2_start_30 (by decide) (fun v30_3 i30_3 => ?_)
        exact c_rz f hx hb hr hlocks hK hP hD hS dX2_start_31 (by omega) (Or.inr ⟨by omega, by omega, rfl⟩)
      · skip
        refine lv_iload_n hx hb dX2_start_18 rfl (lv_at hl 3 rfl) ?_
        refine lv_iload_n hx hb dX2_start_19 rfl (lv_at hl 2 rfl) ?_
        refine c_icmp_lt (tgt := 30) hx hb dX2_start_20 (by decide) (fun c20 => ?_) (fun c20 => ?_)
        · skip
          refine c_iconst hx hb dX2_start_30 (by decide) (fun v30_4 i30_4 => ?_)
          exact c_rz f hx hb hr hlocks hK hP hD hS dX2_start_31 (by omega) (Or.inr ⟨by omega, by omega, rfl⟩)
        · skip
          refine lv_iload_n hx hb dX2_start_23 rfl (lv_at hl 3 rfl) ?_
          refine c_sipush hx hb dX2_start_24 (by decide) (fun v24 i24 => ?_)
          refine c_icmp_le (tgt := 32) hx hb dX2_start_27 (by decide) (fun c27 => ?_) (fun c27 => ?_)
          · skip
            refine lv_aload_n hx hb dX2_start_32 rfl (lv_at hl 0 rfl) ?_
            refine va_get (D := D) (ci := 2) (v := .ref (ad 7)) (C := RX2) (T := TX2) (N := 21) hx hb hts inX2 hown hK hP 0 rfl rfl 8 (by decide) fl32 (fun _ h9 => h9) rfl dX2_start_33 ?_
            refine lv_iload_n hx hb dX2_start_36 rfl (lv_at hl 1 rfl) ?_
            refine lv_iload_n hx hb dX2_start_37 rfl (lv_at hl 2 rfl) ?_
            refine c_iast hx hb hK hP hD hS 7 0 rfl rfl (p1.toInt.toNat) (by omega) (by omega) (WM cI ad (up2 f 6 (p1.toInt.toNat) p2) ah bk bo mv T Dv C 0 mo) rfl dX2_start_38 (fun H locs hP hD hS => ?_)
            refine lv_aload_n hx hb dX2_start_39 rfl (lv_at hl 0 rfl) ?_
            refine va_get (D := D) (ci := 2) (v := .ref (ad 8)) (C := RX2) (T := TX2) (N := 21) hx hb hts inX2 hown hK hP 0 rfl rfl 9 (by decide) fl35 (fun _ h9 => h9) rfl dX2_start_40 ?_
            refine lv_iload_n hx hb dX2_start_43 rfl (lv_at hl 1 rfl) ?_
            refine lv_iload_n hx hb dX2_start_44 rfl (lv_at hl 3 rfl) ?_
            refine c_iast hx hb hK hP hD hS 8 0 rfl rfl (p1.toInt.toNat) (by omega) (by omega) (WM cI ad (up2 (up2 f 6 (p1.toInt.toNat) p2) 7 (p1.toInt.toNat) p3) ah bk bo mv T Dv C 0 mo) rfl dX2_start_45 (fun H locs hP hD hS => ?_)
            refine c_iconst hx hb dX2_start_46 (by decide) (fun v46 i46 => ?_)
            exact c_rz (up2 (up2 f 6 (p1.toInt.toNat) p2) 7 (p1.toInt.toNat) p3) hx hb hr hlocks hK hP hD hS dX2_start_47 (by omega) (Or.inl ⟨by omega, by omega, rfl⟩)
          · skip
            refine c_iconst hx hb dX2_start_30 (by decide) (fun v30_5 i30_5 => ?_)
            exact c_rz f hx hb hr hlocks hK hP hD hS dX2_start_31 (by omega) (Or.inr ⟨by omega, by omega, rfl⟩)
set_option maxHeartbeats 4000000 in
set_option maxRecDepth 100000 in
theorem kX2_check (l : Launch) (D : va_G) (cI : ClassId) (ad : Nat → Nat) (f : Nat → Nat → Int32) (ah : Nat → Int32) (bk : Nat → Int32) (bo : Nat → Int32) (mv : Nat → Int32) (T : Int32) (Dv : Int32) (C : Int32) (th : Int32) (mo : Int32) (Tn : Nat) (Dn : Nat) (Cn : Nat) (p1 : Int32) (p2 : Int32) (p3 : Int32) (p4 : Int32) (hT : T.toInt = (Tn : Int)) (hDv : Dv.toInt = (Dn : Int)) (hC : C.toInt = (Cn : Int)) (hI : Inv f Tn Dn Cn) : MI l yX2_check wsX2_check ({ frames := 0, cells := 0, slots := 0, locals := 0 } : Room) D [(cI, .int)] [.ref (ad 0), .int p1, .int p2, .int p3, .int p4] (WM cI ad f ah bk bo mv T Dv C th mo) (fun u : (Nat → Nat → Int32) × Int32 => (WM cI ad u.1 ah bk bo mv T Dv u.2 0 mo)) (fun (r : Int32) (u : (Nat → Nat → Int32) × Int32) => (((Cn < 20 ∧ (0 ≤ p1.toInt ∧ p1.toInt ≤ (Tn : Int)) ∧ (0 ≤ p2.toInt ∧ p2.toInt ≤ 2) ∧ (0 ≤ p3.toInt ∧ p3.toInt ≤ p4.toInt ∧ p4.toInt ≤ 9999)) ∧ r.toInt = (Cn : Int) ∧ u.1 = chkF f Cn p1 p2 p3 p4 ∧ u.2.toInt = (Cn : Int) + 1) ∨ (¬ (Cn < 20 ∧ (0 ≤ p1.toInt ∧ p1.toInt ≤ (Tn : Int)) ∧ (0 ≤ p2.toInt ∧ p2.toInt ≤ 2) ∧ (0 ≤ p3.toInt ∧ p3.toInt ≤ p4.toInt ∧ p4.toInt ≤ 9999)) ∧ r.toInt = -1 ∧ u = (f, C)))) := by
  refine c_ent (cc := cX2_check) (maxL := 5) (ret := (some .int)) (Qc := fun A => va_Qi (fun (r : Int32) (u : (Nat → Nat → Int32) × Int32) => (((Cn < 20 ∧ (0 ≤ p1.toInt ∧ p1.toInt ≤ (Tn : Int)) ∧ (0 ≤ p2.toInt ∧ p2.toInt ≤ 2) ∧ (0 ≤ p3.toInt ∧ p3.toInt ≤ p4.toInt ∧ p4.toInt ≤ 9999)) ∧ r.toInt = (Cn : Int) ∧ u.1 = chkF f Cn p1 p2 p3 p4 ∧ u.2.toInt = (Cn : Int) + 1) ∨ (¬ (Cn < 20 ∧ (0 ≤ p1.toInt ∧ p1.toInt ≤ (Tn : Int)) ∧ (0 ≤ p2.toInt ∧ p2.toInt ≤ 2) ∧ (0 ≤ p3.toInt ∧ p3.toInt ≤ p4.toInt ∧ p4.toInt ≤ 9999)) ∧ r.toInt = -1 ∧ u = (f, C)))) (cB D [(cI, .int)] A (fun u : (Nat → Nat → Int32) × Int32 => (WM cI ad u.1 ah bk bo mv T Dv u.2 0 mo))) A) (by decide) rfl (Nat.le_of_ble_eq_true rfl) ?_
  intro p e s m below meth c A ls hx hb hr hlocks hts hown hml hK hP hD hA hl
  have hS : va_S A s.heap s.heap [] := va_S.rf
  have hl : lv_has ls 5 [(0, .ref (ad 0)), (1, .int p1), (2, .int p2), (3, .int p3), (4, .int p4)] := hl
  have hP : va_P D vwCl (WM cI ad f ah bk bo mv T Dv C th mo) s.heap := hP
  have fl7 := hts (.fieldLink RX2 7 "DoorBenchModel" "ticks" "I") (by decide +kernel)
  have fl38 := hts (.fieldLink RX2 38 "DoorBenchModel" "cTime" "[I") (by decide +kernel)
  have fl41 := hts (.fieldLink RX2 41 "DoorBenchModel" "cWhat" "[I") (by decide +kernel)
  have fl44 := hts (.fieldLink RX2 44 "DoorBenchModel" "cLow" "[I") (by decide +kernel)
  have fl47 := hts (.fieldLink RX2 47 "DoorBenchModel" "cHigh" "[I") (by decide +kernel)
  have fl66 := hts (.fieldLink RX2 66 "DoorBenchModel" "thrown" "I") (by decide +kernel)
  have fl72 := hts (.fieldLink RX2 72 "DoorBenchModel" "checks" "I") (by decide +kernel)
  have inX2 : ∀ w ∈ wsX20, w ∈ wsX2_check := by decide +kernel
  obtain ⟨hI0, hId, hIr, hIs, hIc⟩ := id hI
  refine lv_aload_n hx hb dX2_check_0 rfl (lv_at hl 0 rfl) ?_
  refine c_iconst hx hb dX2_check_1 (by decide) (fun v1 i1 => ?_)
  obtain rfl : v1 = 0 := t_inj (by rw [i1]; rfl)
  refine c_put (D := D) (ci := 2) (C := RX2) (T := TX2) (N := 21) hx hb hts inX2 tyX2 tyX2_ok nmX2 hown hK hP hD hS 0 rfl rfl 15 (by decide) fl66 (fun _ h9 => h9) rfl (by decide +kernel) (Nat.le_of_ble_eq_true rfl) (WM cI ad f ah bk bo mv T Dv C 0 mo) rfl dX2_check_2 (fun H locs hP hD hS => ?_)
  refine lv_aload_n hx hb dX2_check_5 rfl (lv_at hl 0 rfl) ?_
  refine va_get (D := D) (ci := 2) (v := .int C) (C := RX2) (T := TX2) (N := 21) hx hb hts inX2 hown hK hP 0 rfl rfl 10 (by decide) fl72 (fun _ h9 => h9) rfl dX2_check_6 ?_
  refine c_bipush hx hb dX2_check_9 (by decide) (fun v9 i9 => ?_)
  refine c_icmp_eq (tgt := 53) hx hb dX2_check_11 (by decide) (fun c11 => ?_) (fun c11 => ?_)
  · skip
    refine c_iconst hx hb dX2_check_53 (by decide) (fun v53 i53 => ?_)
    exact c_ri (f, C) hx hb hr hlocks hK hP hD hS dX2_check_54 (Or.inr ⟨by omega, by omega, rfl⟩)
  · skip
    refine lv_iload_n hx hb dX2_check_14 rfl (lv_at hl 1 rfl) ?_
    refine c_if_lt (tgt := 53) hx hb dX2_check_15 (by decide) (fun c15 => ?_) (fun c15 => ?_)
    · skip
      refine c_iconst hx hb dX2_check_53 (by decide) (fun v53_2 i53_2 => ?_)
      exact c_ri (f, C) hx hb hr hlocks hK hP hD hS dX2_check_54 (Or.inr ⟨by omega, by omega, rfl⟩)
    · skip
      refine lv_iload_n hx hb dX2_check_18 rfl (lv_at hl 1 rfl) ?_
      refine lv_aload_n hx hb dX2_check_19 rfl (lv_at hl 0 rfl) ?_
      refine va_get (D := D) (ci := 2) (v := .int T) (C := RX2) (T := TX2) (N := 21) hx hb hts inX2 hown hK hP 0 rfl rfl 0 (by decide) fl7 (fun _ h9 => h9) rfl dX2_check_20 ?_
      refine c_icmp_gt (tgt := 53) hx hb dX2_check_23 (by decide) (fun c23 => ?_) (fun c23 => ?_)
      · skip
        refine c_iconst hx hb dX2_check_53 (by decide) (fun v53_3 i53_3 => ?_)
        exact c_ri (f, C) hx hb hr hlocks hK hP hD hS dX2_check_54 (Or.inr ⟨by omega, by omega, rfl⟩)
      · skip
        refine lv_iload_n hx hb dX2_check_26 rfl (lv_at hl 2 rfl) ?_
        refine c_if_lt (tgt := 53) hx hb dX2_check_27 (by decide) (fun c27 => ?_) (fun c27 => ?_)
        · skip
          refine c_iconst hx hb dX2_check_53 (by decide) (fun v53_4 i53_4 => ?_)
          exact c_ri (f, C) hx hb hr hlocks hK hP hD hS dX2_check_54 (Or.inr ⟨by omega, by omega, rfl⟩)
        · skip
          refine lv_iload_n hx hb dX2_check_30 rfl (lv_at hl 2 rfl) ?_
          refine c_iconst hx hb dX2_check_31 (by decide) (fun v31 i31 => ?_)
          refine c_icmp_gt (tgt := 53) hx hb dX2_check_32 (by decide) (fun c32 => ?_) (fun c32 => ?_)
          · skip
            refine c_iconst hx hb dX2_check_53 (by decide) (fun v53_5 i53_5 => ?_)
            exact c_ri (f, C) hx hb hr hlocks hK hP hD hS dX2_check_54 (Or.inr ⟨by omega, by omega, rfl⟩)
          · skip
            refine lv_iload_n hx hb dX2_check_35 rfl (lv_at hl 3 rfl) ?_
            refine c_if_lt (tgt := 53) hx hb dX2_check_36 (by decide) (fun c36 => ?_) (fun c36 => ?_)
            · skip
              refine c_iconst hx hb dX2_check_53 (by decide) (fun v53_6 i53_6 => ?_)
              exact c_ri (f, C) hx hb hr hlocks hK hP hD hS dX2_check_54 (Or.inr ⟨by omega, by omega, rfl⟩)
            · skip
              refine lv_iload hx hb dX2_check_39 (lv_at hl 4 rfl) ?_
              refine lv_iload_n hx hb dX2_check_41 rfl (lv_at hl 3 rfl) ?_
              refine c_icmp_lt (tgt := 53) hx hb dX2_check_42 (by decide) (fun c42 => ?_) (fun c42 => ?_)
              · skip
                refine c_iconst hx hb dX2_check_53 (by decide) (fun v53_7 i53_7 => ?_)
                exact c_ri (f, C) hx hb hr hlocks hK hP hD hS dX2_check_54 (Or.inr ⟨by omega, by omega, rfl⟩)
              · skip
                refine lv_iload hx hb dX2_check_45 (lv_at hl 4 rfl) ?_
                refine c_sipush hx hb dX2_check_47 (by decide) (fun v47 i47 => ?_)
                refine c_icmp_le (tgt := 55) hx hb dX2_check_50 (by decide) (fun c50 => ?_) (fun c50 => ?_)
                · skip
                  refine lv_aload_n hx hb dX2_check_55 rfl (lv_at hl 0 rfl) ?_
                  refine va_get (D := D) (ci := 2) (v := .ref (ad 9)) (C := RX2) (T := TX2) (N := 21) hx hb hts inX2 hown hK hP 0 rfl rfl 11 (by decide) fl38 (fun _ h9 => h9) rfl dX2_check_56 ?_
                  refine lv_aload_n hx hb dX2_check_59 rfl (lv_at hl 0 rfl) ?_
                  refine va_get (D := D) (ci := 2) (v := .int C) (C := RX2) (T := TX2) (N := 21) hx hb hts inX2 hown hK hP 0 rfl rfl 10 (by decide) fl72 (fun _ h9 => h9) rfl dX2_check_60 ?_
                  refine lv_iload_n hx hb dX2_check_63 rfl (lv_at hl 1 rfl) ?_
                  refine c_iast hx hb hK hP hD hS 9 0 rfl rfl (Cn) (by omega) (by omega) (WM cI ad (up2 f 8 (Cn) p1) ah bk bo mv T Dv C 0 mo) rfl dX2_check_64 (fun H locs hP hD hS => ?_)
                  refine lv_aload_n hx hb dX2_check_65 rfl (lv_at hl 0 rfl) ?_
                  refine va_get (D := D) (ci := 2) (v := .ref (ad 10)) (C := RX2) (T := TX2) (N := 21) hx hb hts inX2 hown hK hP 0 rfl rfl 12 (by decide) fl41 (fun _ h9 => h9) rfl dX2_check_66 ?_
                  refine lv_aload_n hx hb dX2_check_69 rfl (lv_at hl 0 rfl) ?_
                  refine va_get (D := D) (ci := 2) (v := .int C) (C := RX2) (T := TX2) (N := 21) hx hb hts inX2 hown hK hP 0 rfl rfl 10 (by decide) fl72 (fun _ h9 => h9) rfl dX2_check_70 ?_
                  refine lv_iload_n hx hb dX2_check_73 rfl (lv_at hl 2 rfl) ?_
                  refine c_iast hx hb hK hP hD hS 10 0 rfl rfl (Cn) (by omega) (by omega) (WM cI ad (up2 (up2 f 8 (Cn) p1) 9 (Cn) p2) ah bk bo mv T Dv C 0 mo) rfl dX2_check_74 (fun H locs hP hD hS => ?_)
                  refine lv_aload_n hx hb dX2_check_75 rfl (lv_at hl 0 rfl) ?_
                  refine va_get (D := D) (ci := 2) (v := .ref (ad 11)) (C := RX2) (T := TX2) (N := 21) hx hb hts inX2 hown hK hP 0 rfl rfl 13 (by decide) fl44 (fun _ h9 => h9) rfl dX2_check_76 ?_
                  refine lv_aload_n hx hb dX2_check_79 rfl (lv_at hl 0 rfl) ?_
                  refine va_get (D := D) (ci := 2) (v := .int C) (C := RX2) (T := TX2) (N := 21) hx hb hts inX2 hown hK hP 0 rfl rfl 10 (by decide) fl72 (fun _ h9 => h9) rfl dX2_check_80 ?_
                  refine lv_iload_n hx hb dX2_check_83 rfl (lv_at hl 3 rfl) ?_
                  refine c_iast hx hb hK hP hD hS 11 0 rfl rfl (Cn) (by omega) (by omega) (WM cI ad (up2 (up2 (up2 f 8 (Cn) p1) 9 (Cn) p2) 10 (Cn) p3) ah bk bo mv T Dv C 0 mo) rfl dX2_check_84 (fun H locs hP hD hS => ?_)
                  refine lv_aload_n hx hb dX2_check_85 rfl (lv_at hl 0 rfl) ?_
                  refine va_get (D := D) (ci := 2) (v := .ref (ad 12)) (C := RX2) (T := TX2) (N := 21) hx hb hts inX2 hown hK hP 0 rfl rfl 14 (by decide) fl47 (fun _ h9 => h9) rfl dX2_check_86 ?_
                  refine lv_aload_n hx hb dX2_check_89 rfl (lv_at hl 0 rfl) ?_
                  refine va_get (D := D) (ci := 2) (v := .int C) (C := RX2) (T := TX2) (N := 21) hx hb hts inX2 hown hK hP 0 rfl rfl 10 (by decide) fl72 (fun _ h9 => h9) rfl dX2_check_90 ?_
                  refine lv_iload hx hb dX2_check_93 (lv_at hl 4 rfl) ?_
                  refine c_iast hx hb hK hP hD hS 12 0 rfl rfl (Cn) (by omega) (by omega) (WM cI ad (up2 (up2 (up2 (up2 f 8 (Cn) p1) 9 (Cn) p2) 10 (Cn) p3) 11 (Cn) p4) ah bk bo mv T Dv C 0 mo) rfl dX2_check_95 (fun H locs hP hD hS => ?_)
                  refine lv_aload_n hx hb dX2_check_96 rfl (lv_at hl 0 rfl) ?_
                  refine lv_dup hx hb dX2_check_97 rfl ?_
                  refine va_get (D := D) (ci := 2) (v := .int C) (C := RX2) (T := TX2) (N := 21) hx hb hts inX2 hown hK hP 0 rfl rfl 10 (by decide) fl72 (fun _ h9 => h9) rfl dX2_check_98 ?_
                  refine c_iconst hx hb dX2_check_101 (by decide) (fun v101 i101 => ?_)
                  refine c_iadd hx hb dX2_check_102 (by omega) (fun v102 i102 => ?_)
                  refine c_put (D := D) (ci := 2) (C := RX2) (T := TX2) (N := 21) hx hb hts inX2 tyX2 tyX2_ok nmX2 hown hK hP hD hS 0 rfl rfl 10 (by decide) fl72 (fun _ h9 => h9) rfl (by decide +kernel) (Nat.le_of_ble_eq_true rfl) (WM cI ad (up2 (up2 (up2 (up2 f 8 (Cn) p1) 9 (Cn) p2) 10 (Cn) p3) 11 (Cn) p4) ah bk bo mv T Dv v102 0 mo) rfl dX2_check_103 (fun H locs hP hD hS => ?_)
                  refine lv_aload_n hx hb dX2_check_106 rfl (lv_at hl 0 rfl) ?_
                  refine va_get (D := D) (ci := 2) (v := .int v102) (C := RX2) (T := TX2) (N := 21) hx hb hts inX2 hown hK hP 0 rfl rfl 10 (by decide) fl72 (fun _ h9 => h9) rfl dX2_check_107 ?_
                  refine c_iconst hx hb dX2_check_110 (by decide) (fun v110 i110 => ?_)
                  refine c_isub hx hb dX2_check_111 (by omega) (fun v111 i111 => ?_)
                  exact c_ri ((up2 (up2 (up2 (up2 f 8 (Cn) p1) 9 (Cn) p2) 10 (Cn) p3) 11 (Cn) p4), v102) hx hb hr hlocks hK hP hD hS dX2_check_112 (Or.inl ⟨by omega, by omega, rfl, by (try dsimp only); omega⟩)
                · skip
                  refine c_iconst hx hb dX2_check_53 (by decide) (fun v53_8 i53_8 => ?_)
                  exact c_ri (f, C) hx hb hr hlocks hK hP hD hS dX2_check_54 (Or.inr ⟨by omega, by omega, rfl⟩)
set_option maxHeartbeats 4000000 in
set_option maxRecDepth 100000 in
theorem kX2_uncheck (l : Launch) (D : va_G) (cI : ClassId) (ad : Nat → Nat) (f : Nat → Nat → Int32) (ah : Nat → Int32) (bk : Nat → Int32) (bo : Nat → Int32) (mv : Nat → Int32) (T : Int32) (Dv : Int32) (C : Int32) (th : Int32) (mo : Int32) (Tn : Nat) (Dn : Nat) (Cn : Nat) (hT : T.toInt = (Tn : Int)) (hDv : Dv.toInt = (Dn : Int)) (hC : C.toInt = (Cn : Int)) (hI : Inv f Tn Dn Cn) : MI l yX2_uncheck wsX2_uncheck ({ frames := 0, cells := 0, slots := 0, locals := 0 } : Room) D [(cI, .int)] [.ref (ad 0)] (WM cI ad f ah bk bo mv T Dv C th mo) (fun u : Int32 => (WM cI ad f ah bk bo mv T Dv u 0 mo)) (fun (r : Int32) (u : Int32) => ((0 < Cn ∧ r.toInt = (Cn : Int) - 1 ∧ u.toInt = (Cn : Int) - 1) ∨ (Cn = 0 ∧ r.toInt = -1 ∧ u = C))) := by
  refine c_ent (cc := cX2_uncheck) (maxL := 1) (ret := (some .int)) (Qc := fun A => va_Qi (fun (r : Int32) (u : Int32) => ((0 < Cn ∧ r.toInt = (Cn : Int) - 1 ∧ u.toInt = (Cn : Int) - 1) ∨ (Cn = 0 ∧ r.toInt = -1 ∧ u = C))) (cB D [(cI, .int)] A (fun u : Int32 => (WM cI ad f ah bk bo mv T Dv u 0 mo))) A) (by decide) rfl (Nat.le_of_ble_eq_true rfl) ?_
  intro p e s m below meth c A ls hx hb hr hlocks hts hown hml hK hP hD hA hl
  have hS : va_S A s.heap s.heap [] := va_S.rf
  have hl : lv_has ls 1 [(0, .ref (ad 0))] := hl
  have hP : va_P D vwCl (WM cI ad f ah bk bo mv T Dv C th mo) s.heap := hP
  have fl66 := hts (.fieldLink RX2 66 "DoorBenchModel" "thrown" "I") (by decide +kernel)
  have fl72 := hts (.fieldLink RX2 72 "DoorBenchModel" "checks" "I") (by decide +kernel)
  have inX2 : ∀ w ∈ wsX20, w ∈ wsX2_uncheck := by decide +kernel
  obtain ⟨hI0, hId, hIr, hIs, hIc⟩ := id hI
  refine lv_aload_n hx hb dX2_uncheck_0 rfl (lv_at hl 0 rfl) ?_
  refine c_iconst hx hb dX2_uncheck_1 (by decide) (fun v1 i1 => ?_)
  obtain rfl : v1 = 0 := t_inj (by rw [i1]; rfl)
  refine c_put (D := D) (ci := 2) (C := RX2) (T := TX2) (N := 21) hx hb hts inX2 tyX2 tyX2_ok nmX2 hown hK hP hD hS 0 rfl rfl 15 (by decide) fl66 (fun _ h9 => h9) rfl (by decide +kernel) (Nat.le_of_ble_eq_true rfl) (WM cI ad f ah bk bo mv T Dv C 0 mo) rfl dX2_uncheck_2 (fun H locs hP hD hS => ?_)
  refine lv_aload_n hx hb dX2_uncheck_5 rfl (lv_at hl 0 rfl) ?_
  refine va_get (D := D) (ci := 2) (v := .int C) (C := RX2) (T := TX2) (N := 21) hx hb hts inX2 hown hK hP 0 rfl rfl 10 (by decide) fl72 (fun _ h9 => h9) rfl dX2_uncheck_6 ?_
  refine c_if_ne (tgt := 14) hx hb dX2_uncheck_9 (by decide) (fun c9 => ?_) (fun c9 => ?_)
  · skip
    refine lv_aload_n hx hb dX2_uncheck_14 rfl (lv_at hl 0 rfl) ?_
    refine lv_dup hx hb dX2_uncheck_15 rfl ?_
    refine va_get (D := D) (ci := 2) (v := .int C) (C := RX2) (T := TX2) (N := 21) hx hb hts inX2 hown hK hP 0 rfl rfl 10 (by decide) fl72 (fun _ h9 => h9) rfl dX2_uncheck_16 ?_
    refine c_iconst hx hb dX2_uncheck_19 (by decide) (fun v19 i19 => ?_)
    refine c_isub hx hb dX2_uncheck_20 (by omega) (fun v20 i20 => ?_)
    refine c_put (D := D) (ci := 2) (C := RX2) (T := TX2) (N := 21) hx hb hts inX2 tyX2 tyX2_ok nmX2 hown hK hP hD hS 0 rfl rfl 10 (by decide) fl72 (fun _ h9 => h9) rfl (by decide +kernel) (Nat.le_of_ble_eq_true rfl) (WM cI ad f ah bk bo mv T Dv v20 0 mo) rfl dX2_uncheck_21 (fun H locs hP hD hS => ?_)
    refine lv_aload_n hx hb dX2_uncheck_24 rfl (lv_at hl 0 rfl) ?_
    refine va_get (D := D) (ci := 2) (v := .int v20) (C := RX2) (T := TX2) (N := 21) hx hb hts inX2 hown hK hP 0 rfl rfl 10 (by decide) fl72 (fun _ h9 => h9) rfl dX2_uncheck_25 ?_
    exact c_ri v20 hx hb hr hlocks hK hP hD hS dX2_uncheck_28 (Or.inl ⟨by omega, by omega, by (try dsimp only); omega⟩)
  · skip
    refine c_iconst hx hb dX2_uncheck_12 (by decide) (fun v12 i12 => ?_)
    exact c_ri C hx hb hr hlocks hK hP hD hS dX2_uncheck_13 (Or.inr ⟨by omega, by omega, rfl⟩)
set_option maxHeartbeats 4000000 in
set_option maxRecDepth 100000 in
theorem kX2_greater (l : Launch) (D : va_G) (cI : ClassId) (p0 : Int32) (p1 : Int32) : MI l yX2_greater wsX2_greater ({ frames := 0, cells := 0, slots := 0, locals := 0 } : Room) D [(cI, .int)] [.int p0, .int p1] [] (fun u : Unit => []) (fun (r : Int32) (_ : Unit) => isMx r.toInt p0.toInt p1.toInt) := by
  refine c_ent (cc := cX2_greater) (maxL := 2) (ret := (some .int)) (Qc := fun A => va_Qi (fun (r : Int32) (_ : Unit) => isMx r.toInt p0.toInt p1.toInt) (cB D [(cI, .int)] A (fun u : Unit => [])) A) (by decide) rfl (Nat.le_of_ble_eq_true rfl) ?_
  intro p e s m below meth c A ls hx hb hr hlocks hts hown hml hK hP hD hA hl
  have hS : va_S A s.heap s.heap [] := va_S.rf
  have hl : lv_has ls 2 [(0, .int p0), (1, .int p1)] := hl
  have hP : va_P D vwCl [] s.heap := hP
  refine lv_iload_n hx hb dX2_greater_0 rfl (lv_at hl 0 rfl) ?_
  refine lv_iload_n hx hb dX2_greater_1 rfl (lv_at hl 1 rfl) ?_
  refine c_icmp_le (tgt := 9) hx hb dX2_greater_2 (by decide) (fun c2 => ?_) (fun c2 => ?_)
  · skip
    refine lv_iload_n hx hb dX2_greater_9 rfl (lv_at hl 1 rfl) ?_
    exact c_ri () hx hb hr hlocks hK hP hD hS dX2_greater_10 (by (try dsimp only); unfold isMx; omega)
  · skip
    refine lv_iload_n hx hb dX2_greater_5 rfl (lv_at hl 0 rfl) ?_
    refine lv_goto (tgt := 10) hx hb dX2_greater_6 (by decide) ?_
    exact c_ri () hx hb hr hlocks hK hP hD hS dX2_greater_10 (by (try dsimp only); unfold isMx; omega)
set_option maxHeartbeats 4000000 in
set_option maxRecDepth 100000 in
theorem kX2_lesser (l : Launch) (D : va_G) (cI : ClassId) (p0 : Int32) (p1 : Int32) : MI l yX2_lesser wsX2_lesser ({ frames := 0, cells := 0, slots := 0, locals := 0 } : Room) D [(cI, .int)] [.int p0, .int p1] [] (fun u : Unit => []) (fun (r : Int32) (_ : Unit) => isMn r.toInt p0.toInt p1.toInt) := by
  refine c_ent (cc := cX2_lesser) (maxL := 2) (ret := (some .int)) (Qc := fun A => va_Qi (fun (r : Int32) (_ : Unit) => isMn r.toInt p0.toInt p1.toInt) (cB D [(cI, .int)] A (fun u : Unit => [])) A) (by decide) rfl (Nat.le_of_ble_eq_true rfl) ?_
  intro p e s m below meth c A ls hx hb hr hlocks hts hown hml hK hP hD hA hl
  have hS : va_S A s.heap s.heap [] := va_S.rf
  have hl : lv_has ls 2 [(0, .int p0), (1, .int p1)] := hl
  have hP : va_P D vwCl [] s.heap := hP
  refine lv_iload_n hx hb dX2_lesser_0 rfl (lv_at hl 0 rfl) ?_
  refine lv_iload_n hx hb dX2_lesser_1 rfl (lv_at hl 1 rfl) ?_
  refine c_icmp_ge (tgt := 9) hx hb dX2_lesser_2 (by decide) (fun c2 => ?_) (fun c2 => ?_)
  · skip
    refine lv_iload_n hx hb dX2_lesser_9 rfl (lv_at hl 1 rfl) ?_
    exact c_ri () hx hb hr hlocks hK hP hD hS dX2_lesser_10 (by (try dsimp only); unfold isMn; omega)
  · skip
    refine lv_iload_n hx hb dX2_lesser_5 rfl (lv_at hl 0 rfl) ?_
    refine lv_goto (tgt := 10) hx hb dX2_lesser_6 (by decide) ?_
    exact c_ri () hx hb hr hlocks hK hP hD hS dX2_lesser_10 (by (try dsimp only); unfold isMn; omega)
set_option maxHeartbeats 4000000 in
set_option maxRecDepth 100000 in
theorem kX2_least (l : Launch) (D : va_G) (cI : ClassId) (ad : Nat → Nat) (f : Nat → Nat → Int32) (ah : Nat → Int32) (bk : Nat → Int32) (bo : Nat → Int32) (mv : Nat → Int32) (T : Int32) (Dv : Int32) (C : Int32) (th : Int32) (mo : Int32) (Tn : Nat) (Dn : Nat) (Cn : Nat) (p1 : Int32) (p2 : Int32) (d : Nat) (hT : T.toInt = (Tn : Int)) (hDv : Dv.toInt = (Dn : Int)) (hC : C.toInt = (Cn : Int)) (hI : Inv f Tn Dn Cn) (hd : p1.toInt = (d : Int)) (hdn : d < Dn) (ht1 : -1 ≤ p2.toInt ∧ p2.toInt ≤ 20) (hmo : 0 ≤ mo.toInt ∧ mo.toInt ≤ 5) : MI l yX2_least wsX2_least ({ frames := 1, cells := 0, slots := 0, locals := 21 } : Room) D [(cI, .int)] [.ref (ad 0), .int p1, .int p2] (WM cI ad f ah bk bo mv T Dv C th mo) (fun u : Unit => (WM cI ad f ah bk bo mv T Dv C th mo)) (fun (r : Int32) (_ : Unit) => r.toInt = lsP (f 2 d).toInt mo.toInt p2.toInt) := by
  refine c_ent (cc := cX2_least) (maxL := 3) (ret := (some .int)) (Qc := fun A => va_Qi (fun (r : Int32) (_ : Unit) => r.toInt = lsP (f 2 d).toInt mo.toInt p2.toInt) (cB D [(cI, .int)] A (fun u : Unit => (WM cI ad f ah bk bo mv T Dv C th mo))) A) (by decide) rfl (Nat.le_of_ble_eq_true rfl) ?_
  intro p e s m below meth c A ls hx hb hr hlocks hts hown hml hK hP hD hA hl
  have hS : va_S A s.heap s.heap [] := va_S.rf
  have hl : lv_has ls 3 [(0, .ref (ad 0)), (1, .int p1), (2, .int p2)] := hl
  have hP : va_P D vwCl (WM cI ad f ah bk bo mv T Dv C th mo) s.heap := hP
  have fl20 := hts (.fieldLink RX2 20 "DoorBenchModel" "twice" "[I") (by decide +kernel)
  have fl79 := hts (.fieldLink RX2 79 "DoorBenchModel" "more" "I") (by decide +kernel)
  have inX2 : ∀ w ∈ wsX20, w ∈ wsX2_least := by decide +kernel
  obtain ⟨hI0, hId, hIr, hIs, hIc⟩ := id hI
  have q1 := hId d hdn
  refine lv_iload_n hx hb dX2_least_0 rfl (lv_at hl 2 rfl) ?_
  refine c_if_ge (tgt := 8) hx hb dX2_least_1 (by decide) (fun c1 => ?_) (fun c1 => ?_)
  · skip
    refine c_iconst hx hb dX2_least_8 (by decide) (fun v8 i8 => ?_)
    refine lv_iload_n hx hb dX2_least_9 rfl (lv_at hl 2 rfl) ?_
    refine lv_aload_n hx hb dX2_least_10 rfl (lv_at hl 0 rfl) ?_
    refine va_get (D := D) (ci := 2) (v := .ref (ad 3)) (C := RX2) (T := TX2) (N := 21) hx hb hts inX2 hown hK hP 0 rfl rfl 4 (by decide) fl20 (fun _ h9 => h9) rfl dX2_least_11 ?_
    refine lv_iload_n hx hb dX2_least_14 rfl (lv_at hl 1 rfl) ?_
    refine c_iald hx hb hK hP 3 0 rfl rfl (d) (by omega) (by omega) dX2_least_15 (fun v15 e15 => ?_)
    have i15 : v15.toInt = ((f 2) (d)).toInt := by rw [e15]
    refine c_isub hx hb dX2_least_16 (by omega) (fun v16 i16 => ?_)
    refine lv_aload_n hx hb dX2_least_17 rfl (lv_at hl 0 rfl) ?_
    refine va_get (D := D) (ci := 2) (v := .int mo) (C := RX2) (T := TX2) (N := 21) hx hb hts inX2 hown hK hP 0 rfl rfl 20 (by decide) fl79 (fun _ h9 => h9) rfl dX2_least_18 ?_
    refine c_isub hx hb dX2_least_21 (by omega) (fun v21 i21 => ?_)
    refine c_cpi (As := [.int v8, .int v21]) (kX2_greater l D cI v8 v21) ⟨hx, hb, hml, hown, hts⟩ (va_cwS 2 hts gX2_least_X2_greater rfl rfl rfl (by decide +kernel) ⟨Nat.le_of_ble_eq_true rfl, Nat.le_of_ble_eq_true rfl⟩) hK hP hS hA rfl hl.1 rfl (Nat.le_of_ble_eq_true rfl) dX2_least_22 ⟨Nat.zero_le _, Nat.zero_le _⟩ (fun r22 H locs q22 hP hS => ?_)
    try dsimp only at q22
    have m22 : r22.toInt = max _ _ := q22
    exact c_ri () hx hb hr hlocks hK hP hD hS dX2_least_25 (by (try dsimp only); unfold lsP; split <;> omega)
  · skip
    refine c_iconst hx hb dX2_least_4 (by decide) (fun v4 i4 => ?_)
    refine lv_goto (tgt := 25) hx hb dX2_least_5 (by decide) ?_
    exact c_ri () hx hb hr hlocks hK hP hD hS dX2_least_25 (by (try dsimp only); unfold lsP; split <;> omega)
set_option maxHeartbeats 4000000 in
set_option maxRecDepth 100000 in
theorem kX2_most (l : Launch) (D : va_G) (cI : ClassId) (ad : Nat → Nat) (f : Nat → Nat → Int32) (ah : Nat → Int32) (bk : Nat → Int32) (bo : Nat → Int32) (mv : Nat → Int32) (T : Int32) (Dv : Int32) (C : Int32) (th : Int32) (mo : Int32) (Tn : Nat) (Dn : Nat) (Cn : Nat) (p1 : Int32) (p2 : Int32) (d : Nat) (hT : T.toInt = (Tn : Int)) (hDv : Dv.toInt = (Dn : Int)) (hC : C.toInt = (Cn : Int)) (hI : Inv f Tn Dn Cn) (hd : p1.toInt = (d : Int)) (hdn : d < Dn) (ht1 : -1 ≤ p2.toInt ∧ p2.toInt ≤ 20) (hmo : 0 ≤ mo.toInt ∧ mo.toInt ≤ 5) : MI l yX2_most wsX2_most ({ frames := 0, cells := 0, slots := 0, locals := 0 } : Room) D [(cI, .int)] [.ref (ad 0), .int p1, .int p2] (WM cI ad f ah bk bo mv T Dv C th mo) (fun u : Unit => (WM cI ad f ah bk bo mv T Dv C th mo)) (fun (r : Int32) (_ : Unit) => r.toInt = msP (f 3 d).toInt (f 1 d).toInt mo.toInt p2.toInt) := by
  refine c_ent (cc := cX2_most) (maxL := 3) (ret := (some .int)) (Qc := fun A => va_Qi (fun (r : Int32) (_ : Unit) => r.toInt = msP (f 3 d).toInt (f 1 d).toInt mo.toInt p2.toInt) (cB D [(cI, .int)] A (fun u : Unit => (WM cI ad f ah bk bo mv T Dv C th mo))) A) (by decide) rfl (Nat.le_of_ble_eq_true rfl) ?_
  intro p e s m below meth c A ls hx hb hr hlocks hts hown hml hK hP hD hA hl
  have hS : va_S A s.heap s.heap [] := va_S.rf
  have hl : lv_has ls 3 [(0, .ref (ad 0)), (1, .int p1), (2, .int p2)] := hl
  have hP : va_P D vwCl (WM cI ad f ah bk bo mv T Dv C th mo) s.heap := hP
  have fl17 := hts (.fieldLink RX2 17 "DoorBenchModel" "miss" "[I") (by decide +kernel)
  have fl23 := hts (.fieldLink RX2 23 "DoorBenchModel" "cap" "[I") (by decide +kernel)
  have fl79 := hts (.fieldLink RX2 79 "DoorBenchModel" "more" "I") (by decide +kernel)
  have inX2 : ∀ w ∈ wsX20, w ∈ wsX2_most := by decide +kernel
  obtain ⟨hI0, hId, hIr, hIs, hIc⟩ := id hI
  have q1 := hId d hdn
  refine lv_iload_n hx hb dX2_most_0 rfl (lv_at hl 2 rfl) ?_
  refine c_if_ge (tgt := 13) hx hb dX2_most_1 (by decide) (fun c1 => ?_) (fun c1 => ?_)
  · skip
    refine lv_iload_n hx hb dX2_most_13 rfl (lv_at hl 2 rfl) ?_
    refine lv_aload_n hx hb dX2_most_14 rfl (lv_at hl 0 rfl) ?_
    refine va_get (D := D) (ci := 2) (v := .ref (ad 2)) (C := RX2) (T := TX2) (N := 21) hx hb hts inX2 hown hK hP 0 rfl rfl 3 (by decide) fl17 (fun _ h9 => h9) rfl dX2_most_15 ?_
    refine lv_iload_n hx hb dX2_most_18 rfl (lv_at hl 1 rfl) ?_
    refine c_iald hx hb hK hP 2 0 rfl rfl (d) (by omega) (by omega) dX2_most_19 (fun v19 e19 => ?_)
    have i19 : v19.toInt = ((f 1) (d)).toInt := by rw [e19]
    refine c_iadd hx hb dX2_most_20 (by omega) (fun v20 i20 => ?_)
    refine lv_aload_n hx hb dX2_most_21 rfl (lv_at hl 0 rfl) ?_
    refine va_get (D := D) (ci := 2) (v := .int mo) (C := RX2) (T := TX2) (N := 21) hx hb hts inX2 hown hK hP 0 rfl rfl 20 (by decide) fl79 (fun _ h9 => h9) rfl dX2_most_22 ?_
    refine c_iadd hx hb dX2_most_25 (by omega) (fun v25 i25 => ?_)
    exact c_ri () hx hb hr hlocks hK hP hD hS dX2_most_26 (by (try dsimp only); unfold msP; split <;> omega)
  · skip
    refine lv_aload_n hx hb dX2_most_4 rfl (lv_at hl 0 rfl) ?_
    refine va_get (D := D) (ci := 2) (v := .ref (ad 4)) (C := RX2) (T := TX2) (N := 21) hx hb hts inX2 hown hK hP 0 rfl rfl 5 (by decide) fl23 (fun _ h9 => h9) rfl dX2_most_5 ?_
    refine lv_iload_n hx hb dX2_most_8 rfl (lv_at hl 1 rfl) ?_
    refine c_iald hx hb hK hP 4 0 rfl rfl (d) (by omega) (by omega) dX2_most_9 (fun v9 e9 => ?_)
    have i9 : v9.toInt = ((f 3) (d)).toInt := by rw [e9]
    refine lv_goto (tgt := 26) hx hb dX2_most_10 (by decide) ?_
    exact c_ri () hx hb hr hlocks hK hP hD hS dX2_most_26 (by (try dsimp only); unfold msP; split <;> omega)
set_option maxHeartbeats 4000000 in
set_option maxRecDepth 100000 in
theorem kX2_netLow (l : Launch) (D : va_G) (cI : ClassId) (ad : Nat → Nat) (f : Nat → Nat → Int32) (ah : Nat → Int32) (bk : Nat → Int32) (bo : Nat → Int32) (mv : Nat → Int32) (T : Int32) (Dv : Int32) (C : Int32) (th : Int32) (mo : Int32) (Tn : Nat) (Dn : Nat) (Cn : Nat) (p1 : Int32) (p2 : Int32) (d : Nat) (t : Nat) (hT : T.toInt = (Tn : Int)) (hDv : Dv.toInt = (Dn : Int)) (hC : C.toInt = (Cn : Int)) (hI : Inv f Tn Dn Cn) (hd : p1.toInt = (d : Int)) (hdn : d < Dn) (ht : p2.toInt = (t : Int)) (htn : t < Tn) (hmo : 0 ≤ mo.toInt ∧ mo.toInt ≤ 5) : MI l yX2_netLow wsX2_netLow ({ frames := 2, cells := 0, slots := 0, locals := 43 } : Room) D [(cI, .int)] [.ref (ad 0), .int p1, .int p2] (WM cI ad f ah bk bo mv T Dv C th mo) (fun u : Unit => (WM cI ad f ah bk bo mv T Dv C th mo)) (fun (r : Int32) (_ : Unit) => r.toInt = nLo f d t mo.toInt) := by
  refine c_ent (cc := cX2_netLow) (maxL := 3) (ret := (some .int)) (Qc := fun A => va_Qi (fun (r : Int32) (_ : Unit) => r.toInt = nLo f d t mo.toInt) (cB D [(cI, .int)] A (fun u : Unit => (WM cI ad f ah bk bo mv T Dv C th mo))) A) (by decide) rfl (Nat.le_of_ble_eq_true rfl) ?_
  intro p e s m below meth c A ls hx hb hr hlocks hts hown hml hK hP hD hA hl
  have hS : va_S A s.heap s.heap [] := va_S.rf
  have hl : lv_has ls 3 [(0, .ref (ad 0)), (1, .int p1), (2, .int p2)] := hl
  have hP : va_P D vwCl (WM cI ad f ah bk bo mv T Dv C th mo) s.heap := hP
  have fl26 := hts (.fieldLink RX2 26 "DoorBenchModel" "in" "[I") (by decide +kernel)
  have fl29 := hts (.fieldLink RX2 29 "DoorBenchModel" "out" "[I") (by decide +kernel)
  have inX2 : ∀ w ∈ wsX20, w ∈ wsX2_netLow := by decide +kernel
  obtain ⟨hI0, hId, hIr, hIs, hIc⟩ := id hI
  have q1 := hId d hdn
  have q2 := hIr (60 * d + t) (by omega)
  refine lv_aload_n hx hb dX2_netLow_0 rfl (lv_at hl 0 rfl) ?_
  refine lv_iload_n hx hb dX2_netLow_1 rfl (lv_at hl 1 rfl) ?_
  refine lv_aload_n hx hb dX2_netLow_2 rfl (lv_at hl 0 rfl) ?_
  refine va_get (D := D) (ci := 2) (v := .ref (ad 5)) (C := RX2) (T := TX2) (N := 21) hx hb hts inX2 hown hK hP 0 rfl rfl 6 (by decide) fl26 (fun _ h9 => h9) rfl dX2_netLow_3 ?_
  refine c_bipush hx hb dX2_netLow_6 (by decide) (fun v6 i6 => ?_)
  refine lv_iload_n hx hb dX2_netLow_8 rfl (lv_at hl 1 rfl) ?_
  refine c_imul (a := 60) (b := p1.toInt) hx hb dX2_netLow_9 (by omega) rfl (by omega) (fun v9 i9 => ?_)
  refine lv_iload_n hx hb dX2_netLow_10 rfl (lv_at hl 2 rfl) ?_
  refine c_iadd hx hb dX2_netLow_11 (by omega) (fun v11 i11 => ?_)
  refine c_iald hx hb hK hP 5 0 rfl rfl (60 * d + t) (by omega) (by omega) dX2_netLow_12 (fun v12 e12 => ?_)
  have i12 : v12.toInt = ((f 4) (60 * d + t)).toInt := by rw [e12]
  refine c_wvi (As := [.int p1, .int v12]) (ci := 2) (q0 := 0) (kX2_least l D cI ad f ah bk bo mv T Dv C th mo Tn Dn Cn p1 v12 (d) hT hDv hC hI (by omega) (by omega) (by omega) hmo) ⟨hx, hb, hml, hown, hts⟩ (cwV 2 hts gX2_netLow_X2_least rfl rfl rfl (by decide +kernel) ⟨Nat.le_of_ble_eq_true rfl, Nat.le_of_ble_eq_true rfl⟩) hK hP hD hS hA rfl rfl rfl rfl hl.1 rfl (Nat.le_of_ble_eq_true rfl) dX2_netLow_13 ⟨Nat.zero_le _, Nat.zero_le _⟩ (fun r13 u13 H locs q13 hP hD hS => ?_)
  try dsimp only at q13
  have hP : va_P D vwCl (WM cI ad f ah bk bo mv T Dv C th mo) H := hP
  have hD : va_D A (WM cI ad f ah bk bo mv T Dv C th mo) := hD
  rw [i12] at q13
  have b13 : 0 ≤ r13.toInt ∧ r13.toInt ≤ 30 := by (rw [q13]; first | unfold lsP | unfold msP); split <;> omega
  refine lv_aload_n hx hb dX2_netLow_16 rfl (lv_at hl 0 rfl) ?_
  refine lv_iload_n hx hb dX2_netLow_17 rfl (lv_at hl 1 rfl) ?_
  refine lv_aload_n hx hb dX2_netLow_18 rfl (lv_at hl 0 rfl) ?_
  refine va_get (D := D) (ci := 2) (v := .ref (ad 6)) (C := RX2) (T := TX2) (N := 21) hx hb hts inX2 hown hK hP 0 rfl rfl 7 (by decide) fl29 (fun _ h9 => h9) rfl dX2_netLow_19 ?_
  refine c_bipush hx hb dX2_netLow_22 (by decide) (fun v22 i22 => ?_)
  refine lv_iload_n hx hb dX2_netLow_24 rfl (lv_at hl 1 rfl) ?_
  refine c_imul (a := 60) (b := p1.toInt) hx hb dX2_netLow_25 (by omega) rfl (by omega) (fun v25 i25 => ?_)
  refine lv_iload_n hx hb dX2_netLow_26 rfl (lv_at hl 2 rfl) ?_
  refine c_iadd hx hb dX2_netLow_27 (by omega) (fun v27 i27 => ?_)
  refine c_iald hx hb hK hP 6 0 rfl rfl (60 * d + t) (by omega) (by omega) dX2_netLow_28 (fun v28 e28 => ?_)
  have i28 : v28.toInt = ((f 5) (60 * d + t)).toInt := by rw [e28]
  refine c_wvi (As := [.int p1, .int v28]) (ci := 2) (q0 := 0) (kX2_most l D cI ad f ah bk bo mv T Dv C th mo Tn Dn Cn p1 v28 (d) hT hDv hC hI (by omega) (by omega) (by omega) hmo) ⟨hx, hb, hml, hown, hts⟩ (cwV 2 hts gX2_netLow_X2_most rfl rfl rfl (by decide +kernel) ⟨Nat.le_of_ble_eq_true rfl, Nat.le_of_ble_eq_true rfl⟩) hK hP hD hS hA rfl rfl rfl rfl hl.1 rfl (Nat.le_of_ble_eq_true rfl) dX2_netLow_29 ⟨Nat.zero_le _, Nat.zero_le _⟩ (fun r29 u29 H locs q29 hP hD hS => ?_)
  try dsimp only at q29
  have hP : va_P D vwCl (WM cI ad f ah bk bo mv T Dv C th mo) H := hP
  have hD : va_D A (WM cI ad f ah bk bo mv T Dv C th mo) := hD
  rw [i28] at q29
  have b29 : 0 ≤ r29.toInt ∧ r29.toInt ≤ 30 := by (rw [q29]; first | unfold lsP | unfold msP); split <;> omega
  refine c_isub hx hb dX2_netLow_32 (by omega) (fun v32 i32 => ?_)
  exact c_ri () hx hb hr hlocks hK hP hD hS dX2_netLow_33 (by (try dsimp only); unfold nLo; rw [← q13, ← q29]; omega)
set_option maxHeartbeats 4000000 in
set_option maxRecDepth 100000 in
theorem kX2_netHigh (l : Launch) (D : va_G) (cI : ClassId) (ad : Nat → Nat) (f : Nat → Nat → Int32) (ah : Nat → Int32) (bk : Nat → Int32) (bo : Nat → Int32) (mv : Nat → Int32) (T : Int32) (Dv : Int32) (C : Int32) (th : Int32) (mo : Int32) (Tn : Nat) (Dn : Nat) (Cn : Nat) (p1 : Int32) (p2 : Int32) (d : Nat) (t : Nat) (hT : T.toInt = (Tn : Int)) (hDv : Dv.toInt = (Dn : Int)) (hC : C.toInt = (Cn : Int)) (hI : Inv f Tn Dn Cn) (hd : p1.toInt = (d : Int)) (hdn : d < Dn) (ht : p2.toInt = (t : Int)) (htn : t < Tn) (hmo : 0 ≤ mo.toInt ∧ mo.toInt ≤ 5) : MI l yX2_netHigh wsX2_netHigh ({ frames := 2, cells := 0, slots := 0, locals := 43 } : Room) D [(cI, .int)] [.ref (ad 0), .int p1, .int p2] (WM cI ad f ah bk bo mv T Dv C th mo) (fun u : Unit => (WM cI ad f ah bk bo mv T Dv C th mo)) (fun (r : Int32) (_ : Unit) => r.toInt = nHi f d t mo.toInt) := by
  refine c_ent (cc := cX2_netHigh) (maxL := 3) (ret := (some .int)) (Qc := fun A => va_Qi (fun (r : Int32) (_ : Unit) => r.toInt = nHi f d t mo.toInt) (cB D [(cI, .int)] A (fun u : Unit => (WM cI ad f ah bk bo mv T Dv C th mo))) A) (by decide) rfl (Nat.le_of_ble_eq_true rfl) ?_
  intro p e s m below meth c A ls hx hb hr hlocks hts hown hml hK hP hD hA hl
  have hS : va_S A s.heap s.heap [] := va_S.rf
  have hl : lv_has ls 3 [(0, .ref (ad 0)), (1, .int p1), (2, .int p2)] := hl
  have hP : va_P D vwCl (WM cI ad f ah bk bo mv T Dv C th mo) s.heap := hP
  have fl26 := hts (.fieldLink RX2 26 "DoorBenchModel" "in" "[I") (by decide +kernel)
  have fl29 := hts (.fieldLink RX2 29 "DoorBenchModel" "out" "[I") (by decide +kernel)
  have inX2 : ∀ w ∈ wsX20, w ∈ wsX2_netHigh := by decide +kernel
  obtain ⟨hI0, hId, hIr, hIs, hIc⟩ := id hI
  have q1 := hId d hdn
  have q2 := hIr (60 * d + t) (by omega)
  refine lv_aload_n hx hb dX2_netHigh_0 rfl (lv_at hl 0 rfl) ?_
  refine lv_iload_n hx hb dX2_netHigh_1 rfl (lv_at hl 1 rfl) ?_
  refine lv_aload_n hx hb dX2_netHigh_2 rfl (lv_at hl 0 rfl) ?_
  refine va_get (D := D) (ci := 2) (v := .ref (ad 5)) (C := RX2) (T := TX2) (N := 21) hx hb hts inX2 hown hK hP 0 rfl rfl 6 (by decide) fl26 (fun _ h9 => h9) rfl dX2_netHigh_3 ?_
  refine c_bipush hx hb dX2_netHigh_6 (by decide) (fun v6 i6 => ?_)
  refine lv_iload_n hx hb dX2_netHigh_8 rfl (lv_at hl 1 rfl) ?_
  refine c_imul (a := 60) (b := p1.toInt) hx hb dX2_netHigh_9 (by omega) rfl (by omega) (fun v9 i9 => ?_)
  refine lv_iload_n hx hb dX2_netHigh_10 rfl (lv_at hl 2 rfl) ?_
  refine c_iadd hx hb dX2_netHigh_11 (by omega) (fun v11 i11 => ?_)
  refine c_iald hx hb hK hP 5 0 rfl rfl (60 * d + t) (by omega) (by omega) dX2_netHigh_12 (fun v12 e12 => ?_)
  have i12 : v12.toInt = ((f 4) (60 * d + t)).toInt := by rw [e12]
  refine c_wvi (As := [.int p1, .int v12]) (ci := 2) (q0 := 0) (kX2_most l D cI ad f ah bk bo mv T Dv C th mo Tn Dn Cn p1 v12 (d) hT hDv hC hI (by omega) (by omega) (by omega) hmo) ⟨hx, hb, hml, hown, hts⟩ (cwV 2 hts gX2_netHigh_X2_most rfl rfl rfl (by decide +kernel) ⟨Nat.le_of_ble_eq_true rfl, Nat.le_of_ble_eq_true rfl⟩) hK hP hD hS hA rfl rfl rfl rfl hl.1 rfl (Nat.le_of_ble_eq_true rfl) dX2_netHigh_13 ⟨Nat.zero_le _, Nat.zero_le _⟩ (fun r13 u13 H locs q13 hP hD hS => ?_)
  try dsimp only at q13
  have hP : va_P D vwCl (WM cI ad f ah bk bo mv T Dv C th mo) H := hP
  have hD : va_D A (WM cI ad f ah bk bo mv T Dv C th mo) := hD
  rw [i12] at q13
  have b13 : 0 ≤ r13.toInt ∧ r13.toInt ≤ 30 := by (rw [q13]; first | unfold lsP | unfold msP); split <;> omega
  refine lv_aload_n hx hb dX2_netHigh_16 rfl (lv_at hl 0 rfl) ?_
  refine lv_iload_n hx hb dX2_netHigh_17 rfl (lv_at hl 1 rfl) ?_
  refine lv_aload_n hx hb dX2_netHigh_18 rfl (lv_at hl 0 rfl) ?_
  refine va_get (D := D) (ci := 2) (v := .ref (ad 6)) (C := RX2) (T := TX2) (N := 21) hx hb hts inX2 hown hK hP 0 rfl rfl 7 (by decide) fl29 (fun _ h9 => h9) rfl dX2_netHigh_19 ?_
  refine c_bipush hx hb dX2_netHigh_22 (by decide) (fun v22 i22 => ?_)
  refine lv_iload_n hx hb dX2_netHigh_24 rfl (lv_at hl 1 rfl) ?_
  refine c_imul (a := 60) (b := p1.toInt) hx hb dX2_netHigh_25 (by omega) rfl (by omega) (fun v25 i25 => ?_)
  refine lv_iload_n hx hb dX2_netHigh_26 rfl (lv_at hl 2 rfl) ?_
  refine c_iadd hx hb dX2_netHigh_27 (by omega) (fun v27 i27 => ?_)
  refine c_iald hx hb hK hP 6 0 rfl rfl (60 * d + t) (by omega) (by omega) dX2_netHigh_28 (fun v28 e28 => ?_)
  have i28 : v28.toInt = ((f 5) (60 * d + t)).toInt := by rw [e28]
  refine c_wvi (As := [.int p1, .int v28]) (ci := 2) (q0 := 0) (kX2_least l D cI ad f ah bk bo mv T Dv C th mo Tn Dn Cn p1 v28 (d) hT hDv hC hI (by omega) (by omega) (by omega) hmo) ⟨hx, hb, hml, hown, hts⟩ (cwV 2 hts gX2_netHigh_X2_least rfl rfl rfl (by decide +kernel) ⟨Nat.le_of_ble_eq_true rfl, Nat.le_of_ble_eq_true rfl⟩) hK hP hD hS hA rfl rfl rfl rfl hl.1 rfl (Nat.le_of_ble_eq_true rfl) dX2_netHigh_29 ⟨Nat.zero_le _, Nat.zero_le _⟩ (fun r29 u29 H locs q29 hP hD hS => ?_)
  try dsimp only at q29
  have hP : va_P D vwCl (WM cI ad f ah bk bo mv T Dv C th mo) H := hP
  have hD : va_D A (WM cI ad f ah bk bo mv T Dv C th mo) := hD
  rw [i28] at q29
  have b29 : 0 ≤ r29.toInt ∧ r29.toInt ≤ 30 := by (rw [q29]; first | unfold lsP | unfold msP); split <;> omega
  refine c_isub hx hb dX2_netHigh_32 (by omega) (fun v32 i32 => ?_)
  exact c_ri () hx hb hr hlocks hK hP hD hS dX2_netHigh_33 (by (try dsimp only); unfold nHi; rw [← q13, ← q29]; omega)
set_option maxHeartbeats 4000000 in
set_option maxRecDepth 100000 in
theorem kX2_moves (l : Launch) (D : va_G) (cI : ClassId) (ad : Nat → Nat) (f : Nat → Nat → Int32) (ah : Nat → Int32) (bk : Nat → Int32) (bo : Nat → Int32) (mv : Nat → Int32) (T : Int32) (Dv : Int32) (C : Int32) (th : Int32) (mo : Int32) (Tn : Nat) (Dn : Nat) (Cn : Nat) (p1 : Int32) (p2 : Int32) (t : Nat) (hT : T.toInt = (Tn : Int)) (hDv : Dv.toInt = (Dn : Int)) (hC : C.toInt = (Cn : Int)) (hI : Inv f Tn Dn Cn) (ht : p1.toInt = (t : Int)) (htn : t < Tn) (hmo : 0 ≤ mo.toInt ∧ mo.toInt ≤ 5) : MV l yX2_moves wsX2_moves ({ frames := 3, cells := 0, slots := 0, locals := 65 } : Room) D [(cI, .int)] [.ref (ad 0), .int p1, .int p2] (WM cI ad f ah bk bo mv T Dv C th mo) (fun u : Nat → Int32 => (WM cI ad f ah bk bo u T Dv C th mo)) (fun (u : Nat → Int32) => ∀ i, i < 6 → (u i).toInt = mvs f t mo.toInt p2.toInt Dn i) := by
  refine c_ent (cc := cX2_moves) (maxL := 4) (ret := none) (Qc := fun A => va_Qv (fun (u : Nat → Int32) => ∀ i, i < 6 → (u i).toInt = mvs f t mo.toInt p2.toInt Dn i) (cB D [(cI, .int)] A (fun u : Nat → Int32 => (WM cI ad f ah bk bo u T Dv C th mo))) A) (by decide) rfl (Nat.le_of_ble_eq_true rfl) ?_
  intro p e s m below meth c A ls hx hb hr hlocks hts hown hml hK hP hD hA hl
  have hS : va_S A s.heap s.heap [] := va_S.rf
  have hl : lv_has ls 4 [(0, .ref (ad 0)), (1, .int p1), (2, .int p2)] := hl
  have hP : va_P D vwCl (WM cI ad f ah bk bo mv T Dv C th mo) s.heap := hP
  have fl13 := hts (.fieldLink RX2 13 "DoorBenchModel" "kind" "[I") (by decide +kernel)
  have fl59 := hts (.fieldLink RX2 59 "DoorBenchModel" "move" "[I") (by decide +kernel)
  have fl69 := hts (.fieldLink RX2 69 "DoorBenchModel" "doors" "I") (by decide +kernel)
  have inX2 : ∀ w ∈ wsX20, w ∈ wsX2_moves := by decide +kernel
  obtain ⟨hI0, hId, hIr, hIs, hIc⟩ := id hI
  refine c_iconst hx hb dX2_moves_0 (by decide) (fun v0 i0 => ?_)
  refine lv_istore_n (lv' := [(3, .int v0), (0, .ref (ad 0)), (1, .int p1), (2, .int p2)]) hx hb dX2_moves_1 rfl hl (by decide) rfl (fun ls hl => ?_)
  have HL2 : ∀ (n : Nat) (k : Nat) (x3 : Int32) (m1 : Nat → Int32) (H : Heap) (locs : List Loc) (ls : Array Slot), (x3.toInt = (k : Int)) → (k ≤ 6) → (7 ≤ k + n) → (∀ j, j < k → (m1 j).toInt = 0) → va_P D vwCl (WM cI ad f ah bk bo m1 T Dv C th mo) H → va_D A (WM cI ad f ah bk bo m1 T Dv C th mo) → va_S A s.heap H locs → lv_has ls 4 [(0, .ref (ad 0)), (1, .int p1), (2, .int p2), (3, .int x3)] → W p l e ({ frames := 3, cells := 0, slots := 0, locals := 65 } : Room) s m [.ref (ad 0), .int p1, .int p2].toArray below meth c H locs 0 0 (MQ below (va_Qv (fun (u : Nat → Int32) => ∀ i, i < 6 → (u i).toInt = mvs f t mo.toInt p2.toInt Dn i) (cB D [(cI, .int)] A (fun u : Nat → Int32 => (WM cI ad f ah bk bo u T Dv C th mo))) A) [.ref (ad 0), .int p1, .int p2].toArray s 0 0 A) (F0 m 2 ls []) := by
    intro n
    induction n with
    | zero => intro k x3 m1 H locs ls hx3 hk hms hva; exact absurd hms (by omega)
    | succ n ih2 =>
      intro k x3 m1 H locs ls hx3 hk hms hva hP hD hS hl
      refine lv_iload_n hx hb dX2_moves_2 rfl (lv_at hl 3 rfl) ?_
      refine c_bipush hx hb dX2_moves_3 (by decide) (fun v3 i3 => ?_)
      refine c_icmp_ge (tgt := 21) hx hb dX2_moves_5 (by decide) (fun c5 => ?_) (fun c5 => ?_)
      · skip
        refine c_iconst hx hb dX2_moves_21 (by decide) (fun v21 i21 => ?_)
        refine lv_istore_n (lv' := [(3, .int v21), (0, .ref (ad 0)), (1, .int p1), (2, .int p2)]) hx hb dX2_moves_22 rfl hl (by decide) rfl (fun ls hl => ?_)
        have HL23 : ∀ (n : Nat) (d : Nat) (x3 : Int32) (m2 : Nat → Int32) (H : Heap) (locs : List Loc) (ls : Array Slot), (x3.toInt = (d : Int)) → (d ≤ Dn) → (Dn + 1 ≤ d + n) → (∀ i, i < 6 → (m2 i).toInt = mvs f t mo.toInt p2.toInt d i) → va_P D vwCl (WM cI ad f ah bk bo m2 T Dv C th mo) H → va_D A (WM cI ad f ah bk bo m2 T Dv C th mo) → va_S A s.heap H locs → lv_has ls 4 [(0, .ref (ad 0)), (1, .int p1), (2, .int p2), (3, .int x3)] → W p l e ({ frames := 3, cells := 0, slots := 0, locals := 65 } : Room) s m [.ref (ad 0), .int p1, .int p2].toArray below meth c H locs 0 0 (MQ below (va_Qv (fun (u : Nat → Int32) => ∀ i, i < 6 → (u i).toInt = mvs f t mo.toInt p2.toInt Dn i) (cB D [(cI, .int)] A (fun u : Nat → Int32 => (WM cI ad f ah bk bo u T Dv C th mo))) A) [.ref (ad 0), .int p1, .int p2].toArray s 0 0 A) (F0 m 23 ls []) := by
          intro n
          induction n with
          | zero => intro d x3 m2 H locs ls hx3 hdn hms hvs; exact absurd hms (by omega)
          | succ n ih23 =>
            intro d x3 m2 H locs ls hx3 hdn hms hvs hP hD hS hl
            refine lv_iload_n hx hb dX2_moves_23 rfl (lv_at hl 3 rfl) ?_
            refine lv_aload_n hx hb dX2_moves_24 rfl (lv_at hl 0 rfl) ?_
            refine va_get (D := D) (ci := 2) (v := .int Dv) (C := RX2) (T := TX2) (N := 21) hx hb hts inX2 hown hK hP 0 rfl rfl 1 (by decide) fl69 (fun _ h9 => h9) rfl dX2_moves_25 ?_
            refine c_icmp_ge (tgt := 91) hx hb dX2_moves_28 (by decide) (fun c28 => ?_) (fun c28 => ?_)
            · skip
              exact c_rv m2 hx hb hr hlocks hK hP hD hS dX2_moves_91 (by
                      have hdd : d = Dn := by omega
                      subst hdd
                      exact hvs)
            · skip
              refine lv_iload_n hx hb dX2_moves_31 rfl (lv_at hl 3 rfl) ?_
              refine lv_iload_n hx hb dX2_moves_32 rfl (lv_at hl 2 rfl) ?_
              refine c_icmp_ne (tgt := 39) hx hb dX2_moves_33 (by decide) (fun c33 => ?_) (fun c33 => ?_)
              · skip
                have n1 := hId d (by omega)
                have n2 := n_bd (mr := mo.toInt) hI (show d < Dn by omega) htn hmo.1 hmo.2
                have n3 := (mvs_bd (but := p2.toInt) hI htn hmo.1 hmo.2 d hdn).2
                refine lv_aload_n hx hb dX2_moves_39 rfl (lv_at hl 0 rfl) ?_
                refine va_get (D := D) (ci := 2) (v := .ref (ad 16)) (C := RX2) (T := TX2) (N := 21) hx hb hts inX2 hown hK hP 0 rfl rfl 19 (by decide) fl59 (fun _ h9 => h9) rfl dX2_moves_40 ?_
                refine c_iconst hx hb dX2_moves_43 (by decide) (fun v43 i43 => ?_)
                refine lv_aload_n hx hb dX2_moves_44 rfl (lv_at hl 0 rfl) ?_
                refine va_get (D := D) (ci := 2) (v := .ref (ad 1)) (C := RX2) (T := TX2) (N := 21) hx hb hts inX2 hown hK hP 0 rfl rfl 2 (by decide) fl13 (fun _ h9 => h9) rfl dX2_moves_45 ?_
                refine lv_iload_n hx hb dX2_moves_48 rfl (lv_at hl 3 rfl) ?_
                refine c_iald hx hb hK hP 1 0 rfl rfl (d) (by omega) (by omega) dX2_moves_49 (fun v49 e49 => ?_)
                have i49 : v49.toInt = ((f 0) (d)).toInt := by rw [e49]
                skip
                refine c_imul (a := 2) (b := v49.toInt) hx hb dX2_moves_50 (by omega) rfl (by omega) (fun v50 i50 => ?_)
                refine lv_dup2_11 hx hb dX2_moves_51 rfl rfl ?_
                refine c_iald hx hb hK hP 16 0 rfl rfl (2 * (f 0 d).toInt.toNat) (by omega) (by omega) dX2_moves_52 (fun v52 e52 => ?_)
                have i52 : v52.toInt = (m2 (2 * (f 0 d).toInt.toNat)).toInt := by rw [e52]
                have o52 := hvs (2 * (f 0 d).toInt.toNat) (by omega)
                have p52 := n3 (2 * (f 0 d).toInt.toNat) (by omega)
                refine lv_aload_n hx hb dX2_moves_53 rfl (lv_at hl 0 rfl) ?_
                refine lv_iload_n hx hb dX2_moves_54 rfl (lv_at hl 3 rfl) ?_
                refine lv_iload_n hx hb dX2_moves_55 rfl (lv_at hl 1 rfl) ?_
                refine c_wvi (As := [.int x3, .int p1]) (ci := 2) (q0 := 0) (kX2_netLow l D cI ad f ah bk bo m2 T Dv C th mo Tn Dn Cn x3 p1 (d) (t) hT hDv hC hI (by omega) (by omega) (by omega) (by omega) hmo) ⟨hx, hb, hml, hown, hts⟩ (cwV 2 hts gX2_moves_X2_netLow rfl rfl rfl (by decide +kernel) ⟨Nat.le_of_ble_eq_true rfl, Nat.le_of_ble_eq_true rfl⟩) hK hP hD hS hA rfl rfl rfl rfl hl.1 rfl (Nat.le_of_ble_eq_true rfl) dX2_moves_56 ⟨Nat.zero_le _, Nat.zero_le _⟩ (fun r56 u56 H locs q56 hP hD hS => ?_)
                try dsimp only at q56
                have hP : va_P D vwCl (WM cI ad f ah bk bo m2 T Dv C th mo) H := hP
                have hD : va_D A (WM cI ad f ah bk bo m2 T Dv C th mo) := hD
                refine c_iadd hx hb dX2_moves_59 (by omega) (fun v59 i59 => ?_)
                refine c_iast hx hb hK hP hD hS 16 0 rfl rfl (2 * (f 0 d).toInt.toNat) (by omega) (by omega) (WM cI ad f ah bk bo (upd m2 (2 * (f 0 d).toInt.toNat) v59) T Dv C th mo) rfl dX2_moves_60 (fun H locs hP hD hS => ?_)
                refine lv_aload_n hx hb dX2_moves_61 rfl (lv_at hl 0 rfl) ?_
                refine va_get (D := D) (ci := 2) (v := .ref (ad 16)) (C := RX2) (T := TX2) (N := 21) hx hb hts inX2 hown hK hP 0 rfl rfl 19 (by decide) fl59 (fun _ h9 => h9) rfl dX2_moves_62 ?_
                refine c_iconst hx hb dX2_moves_65 (by decide) (fun v65 i65 => ?_)
                refine lv_aload_n hx hb dX2_moves_66 rfl (lv_at hl 0 rfl) ?_
                refine va_get (D := D) (ci := 2) (v := .ref (ad 1)) (C := RX2) (T := TX2) (N := 21) hx hb hts inX2 hown hK hP 0 rfl rfl 2 (by decide) fl13 (fun _ h9 => h9) rfl dX2_moves_67 ?_
                refine lv_iload_n hx hb dX2_moves_70 rfl (lv_at hl 3 rfl) ?_
                refine c_iald hx hb hK hP 1 0 rfl rfl (d) (by omega) (by omega) dX2_moves_71 (fun v71 e71 => ?_)
                have i71 : v71.toInt = ((f 0) (d)).toInt := by rw [e71]
                skip
                refine c_imul (a := 2) (b := v71.toInt) hx hb dX2_moves_72 (by omega) rfl (by omega) (fun v72 i72 => ?_)
                refine c_iconst hx hb dX2_moves_73 (by decide) (fun v73 i73 => ?_)
                refine c_iadd hx hb dX2_moves_74 (by omega) (fun v74 i74 => ?_)
                refine lv_dup2_11 hx hb dX2_moves_75 rfl rfl ?_
                refine c_iald hx hb hK hP 16 0 rfl rfl (2 * (f 0 d).toInt.toNat + 1) (by omega) (by omega) dX2_moves_76 (fun v76 e76 => ?_)
                rw [pk_un (by omega)] at e76
                have i76 : v76.toInt = (m2 (2 * (f 0 d).toInt.toNat + 1)).toInt := by rw [e76]
                have o76 := hvs (2 * (f 0 d).toInt.toNat + 1) (by omega)
                have p76 := n3 (2 * (f 0 d).toInt.toNat + 1) (by omega)
                refine lv_aload_n hx hb dX2_moves_77 rfl (lv_at hl 0 rfl) ?_
                refine lv_iload_n hx hb dX2_moves_78 rfl (lv_at hl 3 rfl) ?_
                refine lv_iload_n hx hb dX2_moves_79 rfl (lv_at hl 1 rfl) ?_
                refine c_wvi (As := [.int x3, .int p1]) (ci := 2) (q0 := 0) (kX2_netHigh l D cI ad f ah bk bo (upd m2 (2 * (f 0 d).toInt.toNat) v59) T Dv C th mo Tn Dn Cn x3 p1 (d) (t) hT hDv hC hI (by omega) (by omega) (by omega) (by omega) hmo) ⟨hx, hb, hml, hown, hts⟩ (cwV 2 hts gX2_moves_X2_netHigh rfl rfl rfl (by decide +kernel) ⟨Nat.le_of_ble_eq_true rfl, Nat.le_of_ble_eq_true rfl⟩) hK hP hD hS hA rfl rfl rfl rfl hl.1 rfl (Nat.le_of_ble_eq_true rfl) dX2_moves_80 ⟨Nat.zero_le _, Nat.zero_le _⟩ (fun r80 u80 H locs q80 hP hD hS => ?_)
                try dsimp only at q80
                have hP : va_P D vwCl (WM cI ad f ah bk bo (upd m2 (2 * (f 0 d).toInt.toNat) v59) T Dv C th mo) H := hP
                have hD : va_D A (WM cI ad f ah bk bo (upd m2 (2 * (f 0 d).toInt.toNat) v59) T Dv C th mo) := hD
                refine c_iadd hx hb dX2_moves_83 (by omega) (fun v83 i83 => ?_)
                refine c_iast hx hb hK hP hD hS 16 0 rfl rfl (2 * (f 0 d).toInt.toNat + 1) (by omega) (by omega) (WM cI ad f ah bk bo (upd (upd m2 (2 * (f 0 d).toInt.toNat) v59) (2 * (f 0 d).toInt.toNat + 1) v83) T Dv C th mo) rfl dX2_moves_84 (fun H locs hP hD hS => ?_)
                refine c_iinc (k := 3) hx hb (fun v85 => [(3, .int v85), (0, .ref (ad 0)), (1, .int p1), (2, .int p2)]) dX2_moves_85 hl rfl (by decide) (by omega) (by decide) (fun _ => rfl) (fun v85 ls i85 hl => ?_)
                have hl : lv_has ls 4 [(3, .int v85), (0, .ref (ad 0)), (1, .int p1), (2, .int p2)] := hl
                refine lv_goto (tgt := 23) hx hb dX2_moves_88 (by decide) ?_
                exact ih23 (d + 1) v85 (upd (upd m2 (2 * (f 0 d).toInt.toNat) v59) (2 * (f 0 d).toInt.toNat + 1) v83) _ _ _ (by omega) (by omega) (by omega) (mv_up (kd := (f 0 d).toInt) (l := nLo f d t mo.toInt) (h := nHi f d t mo.toInt) (by omega) (by omega) hvs (by omega) (by omega) (mvs_st (by omega) n1.1)) hP hD hS (lv_sub hl [1, 2, 3, 0] rfl)
              · skip
                refine lv_goto (tgt := 85) hx hb dX2_moves_36 (by decide) ?_
                refine c_iinc (k := 3) hx hb (fun v85_2 => [(3, .int v85_2), (0, .ref (ad 0)), (1, .int p1), (2, .int p2)]) dX2_moves_85 hl rfl (by decide) (by omega) (by decide) (fun _ => rfl) (fun v85_2 ls i85_2 hl => ?_)
                have hl : lv_has ls 4 [(3, .int v85_2), (0, .ref (ad 0)), (1, .int p1), (2, .int p2)] := hl
                refine lv_goto (tgt := 23) hx hb dX2_moves_88 (by decide) ?_
                exact ih23 (d + 1) v85_2 m2 _ _ _ (by omega) (by omega) (by omega) (fun i hi => by rw [mvs_but (by omega)]; exact hvs i hi) hP hD hS (lv_sub hl [1, 2, 3, 0] rfl)
        exact HL23 (Dn + 1) 0 v21 m1 _ _ _ (by omega) (by omega) (by omega) (fun i hi => by show _ = (0 : Int); exact hva i (by omega)) hP hD hS (lv_sub hl [1, 2, 3, 0] rfl)
      · skip
        refine lv_aload_n hx hb dX2_moves_8 rfl (lv_at hl 0 rfl) ?_
        refine va_get (D := D) (ci := 2) (v := .ref (ad 16)) (C := RX2) (T := TX2) (N := 21) hx hb hts inX2 hown hK hP 0 rfl rfl 19 (by decide) fl59 (fun _ h9 => h9) rfl dX2_moves_9 ?_
        refine lv_iload_n hx hb dX2_moves_12 rfl (lv_at hl 3 rfl) ?_
        refine c_iconst hx hb dX2_moves_13 (by decide) (fun v13 i13 => ?_)
        refine c_iast hx hb hK hP hD hS 16 0 rfl rfl (k) (by omega) (by omega) (WM cI ad f ah bk bo (upd m1 (k) v13) T Dv C th mo) rfl dX2_moves_14 (fun H locs hP hD hS => ?_)
        refine c_iinc (k := 3) hx hb (fun v15 => [(3, .int v15), (0, .ref (ad 0)), (1, .int p1), (2, .int p2)]) dX2_moves_15 hl rfl (by decide) (by omega) (by decide) (fun _ => rfl) (fun v15 ls i15 hl => ?_)
        have hl : lv_has ls 4 [(3, .int v15), (0, .ref (ad 0)), (1, .int p1), (2, .int p2)] := hl
        refine lv_goto (tgt := 2) hx hb dX2_moves_18 (by decide) ?_
        exact ih2 (k + 1) v15 (upd m1 (k) v13) _ _ _ (by omega) (by omega) (by omega) (fun j hj => by
                rcases (show j < k ∨ j = k by omega) with h | rfl
                · rw [pk_un (by omega)]; exact hva j h
                · rw [pk_us]; exact i13) hP hD hS (lv_sub hl [1, 2, 3, 0] rfl)
  exact HL2 7 0 v0 mv _ _ _ (by omega) (by omega) (by omega) (fun j h => absurd h (by omega)) hP hD hS (lv_sub hl [1, 2, 3, 0] rfl)
