set_option maxHeartbeats 4000000 in
set_option maxRecDepth 100000 in
theorem kX0_at (l : Launch) (D : va_G) (cI : ClassId) (p0 : Int32) (p1 : Int32) (a : Nat) (w : Nat) (h0 : p0.toInt = (a : Int)) (h1 : p1.toInt = (w : Int)) (h2 : a ≤ 61) (h3 : w ≤ 2) : MI l yX0_at wsX0_at ({ frames := 0, cells := 0, slots := 0, locals := 0 } : Room) D [(cI, .int)] [.int p0, .int p1] [] (fun u : Unit => []) (fun (r : Int32) (_ : Unit) => r.toInt = ((3 * a + w : Nat) : Int)) := by
  refine c_ent (cc := cX0_at) (maxL := 2) (ret := (some .int)) (Qc := fun A => va_Qi (fun (r : Int32) (_ : Unit) => r.toInt = ((3 * a + w : Nat) : Int)) (cB D [(cI, .int)] A (fun u : Unit => [])) A) (by decide) rfl (Nat.le_of_ble_eq_true rfl) ?_
  intro p e s m below meth c A ls hx hb hr hlocks hts hown hml hK hP hD hA hl
  have hS : va_S A s.heap s.heap [] := va_S.rf
  have hl : lv_has ls 2 [(0, .int p0), (1, .int p1)] := hl
  have hP : va_P D vwCl [] s.heap := hP
  refine lv_iload_n hx hb dX0_at_0 rfl (lv_at hl 0 rfl) ?_
  refine c_iconst hx hb dX0_at_1 (by decide) (fun v1 i1 => ?_)
  refine c_imul (a := p0.toInt) (b := 3) hx hb dX0_at_2 rfl (by omega) (by omega) (fun v2 i2 => ?_)
  refine lv_iload_n hx hb dX0_at_3 rfl (lv_at hl 1 rfl) ?_
  refine c_iadd hx hb dX0_at_4 (by omega) (fun v4 i4 => ?_)
  exact c_ri () hx hb hr hlocks hK hP hD hS dX0_at_5 (by (try dsimp only); omega)
set_option maxHeartbeats 4000000 in
set_option maxRecDepth 100000 in
theorem kX0_low (l : Launch) (D : va_G) (cI : ClassId) (ad : Nat → Nat) (lo : Nat → Int32) (hi : Nat → Int32) (p1 : Int32) (p2 : Int32) (a : Nat) (w : Nat) (h1 : p1.toInt = (a : Int)) (h2 : p2.toInt = (w : Int)) (h3 : a ≤ 61) (h4 : w ≤ 2) : MI l yX0_low wsX0_low ({ frames := 1, cells := 0, slots := 0, locals := 21 } : Room) D [(cI, .int)] [.ref (ad 13), .int p1, .int p2] (WS cI ad lo hi) (fun u : Unit => (WS cI ad lo hi)) (fun (r : Int32) (_ : Unit) => r = lo (3 * a + w)) := by
  refine c_ent (cc := cX0_low) (maxL := 3) (ret := (some .int)) (Qc := fun A => va_Qi (fun (r : Int32) (_ : Unit) => r = lo (3 * a + w)) (cB D [(cI, .int)] A (fun u : Unit => (WS cI ad lo hi))) A) (by decide) rfl (Nat.le_of_ble_eq_true rfl) ?_
  intro p e s m below meth c A ls hx hb hr hlocks hts hown hml hK hP hD hA hl
  have hS : va_S A s.heap s.heap [] := va_S.rf
  have hl : lv_has ls 3 [(0, .ref (ad 13)), (1, .int p1), (2, .int p2)] := hl
  have hP : va_P D vwCl (WS cI ad lo hi) s.heap := hP
  have fl9 := hts (.fieldLink RX0 9 "DoorBench$Spans" "lows" "[I") (by decide +kernel)
  have inX0 : ∀ w ∈ wsX00, w ∈ wsX0_low := by decide +kernel
  refine lv_aload_n hx hb dX0_low_0 rfl (lv_at hl 0 rfl) ?_
  refine va_get (D := D) (ci := 0) (v := .ref (ad 14)) (C := RX0) (T := TX0) (N := 2) hx hb hts inX0 hown hK hP 0 rfl rfl 0 (by decide) fl9 (fun _ h9 => h9) rfl dX0_low_1 ?_
  refine lv_iload_n hx hb dX0_low_4 rfl (lv_at hl 1 rfl) ?_
  refine lv_iload_n hx hb dX0_low_5 rfl (lv_at hl 2 rfl) ?_
  refine c_cpi (As := [.int p1, .int p2]) (kX0_at l D cI p1 p2 (a) (w) (by omega) (by omega) (by omega) (by omega)) ⟨hx, hb, hml, hown, hts⟩ (va_cwS 2 hts gX0_low_X0_at rfl rfl rfl (by decide +kernel) ⟨Nat.le_of_ble_eq_true rfl, Nat.le_of_ble_eq_true rfl⟩) hK hP hS hA rfl hl.1 rfl (Nat.le_of_ble_eq_true rfl) dX0_low_6 ⟨Nat.zero_le _, Nat.zero_le _⟩ (fun r6 H locs q6 hP hS => ?_)
  try dsimp only at q6
  skip
  refine c_iald hx hb hK hP 1 0 rfl rfl (3 * a + w) (by omega) (by omega) dX0_low_9 (fun v9 e9 => ?_)
  have i9 : v9.toInt = (lo (3 * a + w)).toInt := by rw [e9]
  exact c_ri () hx hb hr hlocks hK hP hD hS dX0_low_10 (by (try dsimp only); assumption)
set_option maxHeartbeats 4000000 in
set_option maxRecDepth 100000 in
theorem kX0_high (l : Launch) (D : va_G) (cI : ClassId) (ad : Nat → Nat) (lo : Nat → Int32) (hi : Nat → Int32) (p1 : Int32) (p2 : Int32) (a : Nat) (w : Nat) (h1 : p1.toInt = (a : Int)) (h2 : p2.toInt = (w : Int)) (h3 : a ≤ 61) (h4 : w ≤ 2) : MI l yX0_high wsX0_high ({ frames := 1, cells := 0, slots := 0, locals := 21 } : Room) D [(cI, .int)] [.ref (ad 13), .int p1, .int p2] (WS cI ad lo hi) (fun u : Unit => (WS cI ad lo hi)) (fun (r : Int32) (_ : Unit) => r = hi (3 * a + w)) := by
  refine c_ent (cc := cX0_high) (maxL := 3) (ret := (some .int)) (Qc := fun A => va_Qi (fun (r : Int32) (_ : Unit) => r = hi (3 * a + w)) (cB D [(cI, .int)] A (fun u : Unit => (WS cI ad lo hi))) A) (by decide) rfl (Nat.le_of_ble_eq_true rfl) ?_
  intro p e s m below meth c A ls hx hb hr hlocks hts hown hml hK hP hD hA hl
  have hS : va_S A s.heap s.heap [] := va_S.rf
  have hl : lv_has ls 3 [(0, .ref (ad 13)), (1, .int p1), (2, .int p2)] := hl
  have hP : va_P D vwCl (WS cI ad lo hi) s.heap := hP
  have fl15 := hts (.fieldLink RX0 15 "DoorBench$Spans" "highs" "[I") (by decide +kernel)
  have inX0 : ∀ w ∈ wsX00, w ∈ wsX0_high := by decide +kernel
  refine lv_aload_n hx hb dX0_high_0 rfl (lv_at hl 0 rfl) ?_
  refine va_get (D := D) (ci := 0) (v := .ref (ad 15)) (C := RX0) (T := TX0) (N := 2) hx hb hts inX0 hown hK hP 0 rfl rfl 1 (by decide) fl15 (fun _ h9 => h9) rfl dX0_high_1 ?_
  refine lv_iload_n hx hb dX0_high_4 rfl (lv_at hl 1 rfl) ?_
  refine lv_iload_n hx hb dX0_high_5 rfl (lv_at hl 2 rfl) ?_
  refine c_cpi (As := [.int p1, .int p2]) (kX0_at l D cI p1 p2 (a) (w) (by omega) (by omega) (by omega) (by omega)) ⟨hx, hb, hml, hown, hts⟩ (va_cwS 2 hts gX0_high_X0_at rfl rfl rfl (by decide +kernel) ⟨Nat.le_of_ble_eq_true rfl, Nat.le_of_ble_eq_true rfl⟩) hK hP hS hA rfl hl.1 rfl (Nat.le_of_ble_eq_true rfl) dX0_high_6 ⟨Nat.zero_le _, Nat.zero_le _⟩ (fun r6 H locs q6 hP hS => ?_)
  try dsimp only at q6
  skip
  refine c_iald hx hb hK hP 2 0 rfl rfl (3 * a + w) (by omega) (by omega) dX0_high_9 (fun v9 e9 => ?_)
  have i9 : v9.toInt = (hi (3 * a + w)).toInt := by rw [e9]
  exact c_ri () hx hb hr hlocks hK hP hD hS dX0_high_10 (by (try dsimp only); assumption)
set_option maxHeartbeats 4000000 in
set_option maxRecDepth 100000 in
theorem kX0_put (l : Launch) (D : va_G) (cI : ClassId) (ad : Nat → Nat) (lo : Nat → Int32) (hi : Nat → Int32) (p1 : Int32) (p2 : Int32) (p3 : Int32) (p4 : Int32) (a : Nat) (w : Nat) (h1 : p1.toInt = (a : Int)) (h2 : p2.toInt = (w : Int)) (h3 : a ≤ 61) (h4 : w ≤ 2) : MV l yX0_put wsX0_put ({ frames := 1, cells := 0, slots := 0, locals := 21 } : Room) D [(cI, .int)] [.ref (ad 13), .int p1, .int p2, .int p3, .int p4] (WS cI ad lo hi) (fun u : Unit => (WS cI ad (upd lo (3 * a + w) p3) (upd hi (3 * a + w) p4))) (fun (_ : Unit) => True) := by
  refine c_ent (cc := cX0_put) (maxL := 6) (ret := none) (Qc := fun A => va_Qv (fun (_ : Unit) => True) (cB D [(cI, .int)] A (fun u : Unit => (WS cI ad (upd lo (3 * a + w) p3) (upd hi (3 * a + w) p4)))) A) (by decide) rfl (Nat.le_of_ble_eq_true rfl) ?_
  intro p e s m below meth c A ls hx hb hr hlocks hts hown hml hK hP hD hA hl
  have hS : va_S A s.heap s.heap [] := va_S.rf
  have hl : lv_has ls 6 [(0, .ref (ad 13)), (1, .int p1), (2, .int p2), (3, .int p3), (4, .int p4)] := hl
  have hP : va_P D vwCl (WS cI ad lo hi) s.heap := hP
  have fl9 := hts (.fieldLink RX0 9 "DoorBench$Spans" "lows" "[I") (by decide +kernel)
  have fl15 := hts (.fieldLink RX0 15 "DoorBench$Spans" "highs" "[I") (by decide +kernel)
  have inX0 : ∀ w ∈ wsX00, w ∈ wsX0_put := by decide +kernel
  refine lv_iload_n hx hb dX0_put_0 rfl (lv_at hl 1 rfl) ?_
  refine lv_iload_n hx hb dX0_put_1 rfl (lv_at hl 2 rfl) ?_
  refine c_cpi (As := [.int p1, .int p2]) (kX0_at l D cI p1 p2 (a) (w) (by omega) (by omega) (by omega) (by omega)) ⟨hx, hb, hml, hown, hts⟩ (va_cwS 2 hts gX0_put_X0_at rfl rfl rfl (by decide +kernel) ⟨Nat.le_of_ble_eq_true rfl, Nat.le_of_ble_eq_true rfl⟩) hK hP hS hA rfl hl.1 rfl (Nat.le_of_ble_eq_true rfl) dX0_put_2 ⟨Nat.zero_le _, Nat.zero_le _⟩ (fun r2 H locs q2 hP hS => ?_)
  try dsimp only at q2
  skip
  refine lv_istore (lv' := [(5, .int r2), (0, .ref (ad 13)), (1, .int p1), (2, .int p2), (3, .int p3), (4, .int p4)]) hx hb dX0_put_5 hl (by decide) rfl (fun ls hl => ?_)
  refine lv_aload_n hx hb dX0_put_7 rfl (lv_at hl 1 rfl) ?_
  refine va_get (D := D) (ci := 0) (v := .ref (ad 14)) (C := RX0) (T := TX0) (N := 2) hx hb hts inX0 hown hK hP 0 rfl rfl 0 (by decide) fl9 (fun _ h9 => h9) rfl dX0_put_8 ?_
  refine lv_iload hx hb dX0_put_11 (lv_at hl 0 rfl) ?_
  refine lv_iload_n hx hb dX0_put_13 rfl (lv_at hl 4 rfl) ?_
  refine c_iast hx hb hK hP hD hS 1 0 rfl rfl (3 * a + w) (by omega) (by omega) (WS cI ad (upd lo (3 * a + w) p3) hi) rfl dX0_put_14 (fun H locs hP hD hS => ?_)
  refine lv_aload_n hx hb dX0_put_15 rfl (lv_at hl 1 rfl) ?_
  refine va_get (D := D) (ci := 0) (v := .ref (ad 15)) (C := RX0) (T := TX0) (N := 2) hx hb hts inX0 hown hK hP 0 rfl rfl 1 (by decide) fl15 (fun _ h9 => h9) rfl dX0_put_16 ?_
  refine lv_iload hx hb dX0_put_19 (lv_at hl 0 rfl) ?_
  refine lv_iload hx hb dX0_put_21 (lv_at hl 5 rfl) ?_
  refine c_iast hx hb hK hP hD hS 2 0 rfl rfl (3 * a + w) (by omega) (by omega) (WS cI ad (upd lo (3 * a + w) p3) (upd hi (3 * a + w) p4)) rfl dX0_put_23 (fun H locs hP hD hS => ?_)
  exact c_rv () hx hb hr hlocks hK hP hD hS dX0_put_24 trivial
set_option maxHeartbeats 4000000 in
set_option maxRecDepth 100000 in
theorem kX0_widen (l : Launch) (D : va_G) (cI : ClassId) (ad : Nat → Nat) (lo : Nat → Int32) (hi : Nat → Int32) (p1 : Int32) (p2 : Int32) (p3 : Int32) (p4 : Int32) (a : Nat) (w : Nat) (h1 : p1.toInt = (a : Int)) (h2 : p2.toInt = (w : Int)) (h3 : a ≤ 61) (h4 : w ≤ 2) (h5 : -100000000 ≤ (lo (3 * a + w)).toInt ∧ (lo (3 * a + w)).toInt ≤ 100000000) (h6 : -100000000 ≤ (hi (3 * a + w)).toInt ∧ (hi (3 * a + w)).toInt ≤ 100000000) (h7 : -100000000 ≤ p3.toInt ∧ p3.toInt ≤ 100000000) (h8 : -100000000 ≤ p4.toInt ∧ p4.toInt ≤ 100000000) : MV l yX0_widen wsX0_widen ({ frames := 1, cells := 0, slots := 0, locals := 21 } : Room) D [(cI, .int)] [.ref (ad 13), .int p1, .int p2, .int p3, .int p4] (WS cI ad lo hi) (fun u : Int32 × Int32 => (WS cI ad (upd lo (3 * a + w) u.1) (upd hi (3 * a + w) u.2))) (fun (u : Int32 × Int32) => u.1.toInt = (lo (3 * a + w)).toInt + p3.toInt ∧ u.2.toInt = (hi (3 * a + w)).toInt + p4.toInt) := by
  refine c_ent (cc := cX0_widen) (maxL := 6) (ret := none) (Qc := fun A => va_Qv (fun (u : Int32 × Int32) => u.1.toInt = (lo (3 * a + w)).toInt + p3.toInt ∧ u.2.toInt = (hi (3 * a + w)).toInt + p4.toInt) (cB D [(cI, .int)] A (fun u : Int32 × Int32 => (WS cI ad (upd lo (3 * a + w) u.1) (upd hi (3 * a + w) u.2)))) A) (by decide) rfl (Nat.le_of_ble_eq_true rfl) ?_
  intro p e s m below meth c A ls hx hb hr hlocks hts hown hml hK hP hD hA hl
  have hS : va_S A s.heap s.heap [] := va_S.rf
  have hl : lv_has ls 6 [(0, .ref (ad 13)), (1, .int p1), (2, .int p2), (3, .int p3), (4, .int p4)] := hl
  have hP : va_P D vwCl (WS cI ad lo hi) s.heap := hP
  have fl9 := hts (.fieldLink RX0 9 "DoorBench$Spans" "lows" "[I") (by decide +kernel)
  have fl15 := hts (.fieldLink RX0 15 "DoorBench$Spans" "highs" "[I") (by decide +kernel)
  have inX0 : ∀ w ∈ wsX00, w ∈ wsX0_widen := by decide +kernel
  refine lv_iload_n hx hb dX0_widen_0 rfl (lv_at hl 1 rfl) ?_
  refine lv_iload_n hx hb dX0_widen_1 rfl (lv_at hl 2 rfl) ?_
  refine c_cpi (As := [.int p1, .int p2]) (kX0_at l D cI p1 p2 (a) (w) (by omega) (by omega) (by omega) (by omega)) ⟨hx, hb, hml, hown, hts⟩ (va_cwS 2 hts gX0_widen_X0_at rfl rfl rfl (by decide +kernel) ⟨Nat.le_of_ble_eq_true rfl, Nat.le_of_ble_eq_true rfl⟩) hK hP hS hA rfl hl.1 rfl (Nat.le_of_ble_eq_true rfl) dX0_widen_2 ⟨Nat.zero_le _, Nat.zero_le _⟩ (fun r2 H locs q2 hP hS => ?_)
  try dsimp only at q2
  skip
  refine lv_istore (lv' := [(5, .int r2), (0, .ref (ad 13)), (1, .int p1), (2, .int p2), (3, .int p3), (4, .int p4)]) hx hb dX0_widen_5 hl (by decide) rfl (fun ls hl => ?_)
  refine lv_aload_n hx hb dX0_widen_7 rfl (lv_at hl 1 rfl) ?_
  refine va_get (D := D) (ci := 0) (v := .ref (ad 14)) (C := RX0) (T := TX0) (N := 2) hx hb hts inX0 hown hK hP 0 rfl rfl 0 (by decide) fl9 (fun _ h9 => h9) rfl dX0_widen_8 ?_
  refine lv_iload hx hb dX0_widen_11 (lv_at hl 0 rfl) ?_
  refine lv_dup2_11 hx hb dX0_widen_13 rfl rfl ?_
  refine c_iald hx hb hK hP 1 0 rfl rfl (3 * a + w) (by omega) (by omega) dX0_widen_14 (fun v14 e14 => ?_)
  have i14 : v14.toInt = (lo (3 * a + w)).toInt := by rw [e14]
  refine lv_iload_n hx hb dX0_widen_15 rfl (lv_at hl 4 rfl) ?_
  refine c_iadd hx hb dX0_widen_16 (by omega) (fun v16 i16 => ?_)
  refine c_iast hx hb hK hP hD hS 1 0 rfl rfl (3 * a + w) (by omega) (by omega) (WS cI ad (upd lo (3 * a + w) v16) hi) rfl dX0_widen_17 (fun H locs hP hD hS => ?_)
  refine lv_aload_n hx hb dX0_widen_18 rfl (lv_at hl 1 rfl) ?_
  refine va_get (D := D) (ci := 0) (v := .ref (ad 15)) (C := RX0) (T := TX0) (N := 2) hx hb hts inX0 hown hK hP 0 rfl rfl 1 (by decide) fl15 (fun _ h9 => h9) rfl dX0_widen_19 ?_
  refine lv_iload hx hb dX0_widen_22 (lv_at hl 0 rfl) ?_
  refine lv_dup2_11 hx hb dX0_widen_24 rfl rfl ?_
  refine c_iald hx hb hK hP 2 0 rfl rfl (3 * a + w) (by omega) (by omega) dX0_widen_25 (fun v25 e25 => ?_)
  have i25 : v25.toInt = (hi (3 * a + w)).toInt := by rw [e25]
  refine lv_iload hx hb dX0_widen_26 (lv_at hl 5 rfl) ?_
  refine c_iadd hx hb dX0_widen_28 (by omega) (fun v28 i28 => ?_)
  refine c_iast hx hb hK hP hD hS 2 0 rfl rfl (3 * a + w) (by omega) (by omega) (WS cI ad (upd lo (3 * a + w) v16) (upd hi (3 * a + w) v28)) rfl dX0_widen_29 (fun H locs hP hD hS => ?_)
  exact c_rv (v16, v28) hx hb hr hlocks hK hP hD hS dX0_widen_30 (by (try dsimp only); omega)
set_option maxHeartbeats 4000000 in
set_option maxRecDepth 100000 in
theorem kX0_cut (l : Launch) (D : va_G) (cI : ClassId) (ad : Nat → Nat) (lo : Nat → Int32) (hi : Nat → Int32) (p1 : Int32) (p2 : Int32) (p3 : Int32) (p4 : Int32) (a : Nat) (w : Nat) (h1 : p1.toInt = (a : Int)) (h2 : p2.toInt = (w : Int)) (h3 : a ≤ 61) (h4 : w ≤ 2) : MV l yX0_cut wsX0_cut ({ frames := 1, cells := 0, slots := 0, locals := 21 } : Room) D [(cI, .int)] [.ref (ad 13), .int p1, .int p2, .int p3, .int p4] (WS cI ad lo hi) (fun u : Int32 × Int32 => (WS cI ad (upd lo (3 * a + w) u.1) (upd hi (3 * a + w) u.2))) (fun (u : Int32 × Int32) => isMx u.1.toInt (lo (3 * a + w)).toInt p3.toInt ∧ isMn u.2.toInt (hi (3 * a + w)).toInt p4.toInt) := by
  refine c_ent (cc := cX0_cut) (maxL := 6) (ret := none) (Qc := fun A => va_Qv (fun (u : Int32 × Int32) => isMx u.1.toInt (lo (3 * a + w)).toInt p3.toInt ∧ isMn u.2.toInt (hi (3 * a + w)).toInt p4.toInt) (cB D [(cI, .int)] A (fun u : Int32 × Int32 => (WS cI ad (upd lo (3 * a + w) u.1) (upd hi (3 * a + w) u.2)))) A) (by decide) rfl (Nat.le_of_ble_eq_true rfl) ?_
  intro p e s m below meth c A ls hx hb hr hlocks hts hown hml hK hP hD hA hl
  have hS : va_S A s.heap s.heap [] := va_S.rf
  have hl : lv_has ls 6 [(0, .ref (ad 13)), (1, .int p1), (2, .int p2), (3, .int p3), (4, .int p4)] := hl
  have hP : va_P D vwCl (WS cI ad lo hi) s.heap := hP
  have fl9 := hts (.fieldLink RX0 9 "DoorBench$Spans" "lows" "[I") (by decide +kernel)
  have fl15 := hts (.fieldLink RX0 15 "DoorBench$Spans" "highs" "[I") (by decide +kernel)
  have inX0 : ∀ w ∈ wsX00, w ∈ wsX0_cut := by decide +kernel
  have ml22 := hts (.methodLink RX0 22 Lib.Math.max.name) (by decide +kernel)
  have ms22 := hts (.static Lib.Math.max.name) (by decide +kernel)
  have mi22 := hts (.initialized "java/lang/Math") (by decide +kernel)
  have mc22 := hts (.code Lib.Math.max.name Lib.Math.max.code 2 (some .int)) (by decide +kernel)
  have ml27 := hts (.methodLink RX0 27 Lib.Math.min.name) (by decide +kernel)
  have ms27 := hts (.static Lib.Math.min.name) (by decide +kernel)
  have mi27 := hts (.initialized "java/lang/Math") (by decide +kernel)
  have mc27 := hts (.code Lib.Math.min.name Lib.Math.min.code 2 (some .int)) (by decide +kernel)
  refine lv_iload_n hx hb dX0_cut_0 rfl (lv_at hl 1 rfl) ?_
  refine lv_iload_n hx hb dX0_cut_1 rfl (lv_at hl 2 rfl) ?_
  refine c_cpi (As := [.int p1, .int p2]) (kX0_at l D cI p1 p2 (a) (w) (by omega) (by omega) (by omega) (by omega)) ⟨hx, hb, hml, hown, hts⟩ (va_cwS 2 hts gX0_cut_X0_at rfl rfl rfl (by decide +kernel) ⟨Nat.le_of_ble_eq_true rfl, Nat.le_of_ble_eq_true rfl⟩) hK hP hS hA rfl hl.1 rfl (Nat.le_of_ble_eq_true rfl) dX0_cut_2 ⟨Nat.zero_le _, Nat.zero_le _⟩ (fun r2 H locs q2 hP hS => ?_)
  try dsimp only at q2
  skip
  refine lv_istore (lv' := [(5, .int r2), (0, .ref (ad 13)), (1, .int p1), (2, .int p2), (3, .int p3), (4, .int p4)]) hx hb dX0_cut_5 hl (by decide) rfl (fun ls hl => ?_)
  refine lv_aload_n hx hb dX0_cut_7 rfl (lv_at hl 1 rfl) ?_
  refine va_get (D := D) (ci := 0) (v := .ref (ad 14)) (C := RX0) (T := TX0) (N := 2) hx hb hts inX0 hown hK hP 0 rfl rfl 0 (by decide) fl9 (fun _ h9 => h9) rfl dX0_cut_8 ?_
  refine lv_iload hx hb dX0_cut_11 (lv_at hl 0 rfl) ?_
  refine lv_aload_n hx hb dX0_cut_13 rfl (lv_at hl 1 rfl) ?_
  refine va_get (D := D) (ci := 0) (v := .ref (ad 14)) (C := RX0) (T := TX0) (N := 2) hx hb hts inX0 hown hK hP 0 rfl rfl 0 (by decide) fl9 (fun _ h9 => h9) rfl dX0_cut_14 ?_
  refine lv_iload hx hb dX0_cut_17 (lv_at hl 0 rfl) ?_
  refine c_iald hx hb hK hP 1 0 rfl rfl (3 * a + w) (by omega) (by omega) dX0_cut_19 (fun v19 e19 => ?_)
  have i19 : v19.toInt = (lo (3 * a + w)).toInt := by rw [e19]
  refine lv_iload_n hx hb dX0_cut_20 rfl (lv_at hl 4 rfl) ?_
  refine c_mmax hx hb (hml.trans hl.1.symm) hown ml22 ms22 mi22 mc22 (Nat.le_of_ble_eq_true rfl) (Nat.le_of_ble_eq_true rfl) (Nat.zero_le _) (Nat.zero_le _) dX0_cut_21 (fun v21 i21 => ?_)
  refine c_iast hx hb hK hP hD hS 1 0 rfl rfl (3 * a + w) (by omega) (by omega) (WS cI ad (upd lo (3 * a + w) v21) hi) rfl dX0_cut_24 (fun H locs hP hD hS => ?_)
  refine lv_aload_n hx hb dX0_cut_25 rfl (lv_at hl 1 rfl) ?_
  refine va_get (D := D) (ci := 0) (v := .ref (ad 15)) (C := RX0) (T := TX0) (N := 2) hx hb hts inX0 hown hK hP 0 rfl rfl 1 (by decide) fl15 (fun _ h9 => h9) rfl dX0_cut_26 ?_
  refine lv_iload hx hb dX0_cut_29 (lv_at hl 0 rfl) ?_
  refine lv_aload_n hx hb dX0_cut_31 rfl (lv_at hl 1 rfl) ?_
  refine va_get (D := D) (ci := 0) (v := .ref (ad 15)) (C := RX0) (T := TX0) (N := 2) hx hb hts inX0 hown hK hP 0 rfl rfl 1 (by decide) fl15 (fun _ h9 => h9) rfl dX0_cut_32 ?_
  refine lv_iload hx hb dX0_cut_35 (lv_at hl 0 rfl) ?_
  refine c_iald hx hb hK hP 2 0 rfl rfl (3 * a + w) (by omega) (by omega) dX0_cut_37 (fun v37 e37 => ?_)
  have i37 : v37.toInt = (hi (3 * a + w)).toInt := by rw [e37]
  refine lv_iload hx hb dX0_cut_38 (lv_at hl 5 rfl) ?_
  refine c_mmin hx hb (hml.trans hl.1.symm) hown ml27 ms27 mi27 mc27 (Nat.le_of_ble_eq_true rfl) (Nat.le_of_ble_eq_true rfl) (Nat.zero_le _) (Nat.zero_le _) dX0_cut_40 (fun v40 i40 => ?_)
  refine c_iast hx hb hK hP hD hS 2 0 rfl rfl (3 * a + w) (by omega) (by omega) (WS cI ad (upd lo (3 * a + w) v21) (upd hi (3 * a + w) v40)) rfl dX0_cut_43 (fun H locs hP hD hS => ?_)
  exact c_rv (v21, v40) hx hb hr hlocks hK hP hD hS dX0_cut_44 ⟨by show _ = max _ _; rw [i21, i19], by show _ = min _ _; rw [i40, i37]⟩
set_option maxHeartbeats 4000000 in
set_option maxRecDepth 100000 in
theorem kX0_putSum (l : Launch) (D : va_G) (cI : ClassId) (ad : Nat → Nat) (lo : Nat → Int32) (hi : Nat → Int32) (p1 : Int32) (p2 : Int32) (p3 : Int32) (a : Nat) (b : Nat) (c0 : Nat) (h1 : p1.toInt = (a : Int)) (h2 : p2.toInt = (b : Int)) (h3 : p3.toInt = (c0 : Int)) (h4 : a ≤ 61 ∧ b ≤ 61 ∧ c0 ≤ 61 ∧ a ≠ b ∧ a ≠ c0) (h5 : bd (rwX lo hi b) 100000000) (h6 : bd (rwX lo hi c0) 100000000) : MV l yX0_putSum wsX0_putSum ({ frames := 2, cells := 0, slots := 0, locals := 46 } : Room) D [(cI, .int)] [.ref (ad 13), .int p1, .int p2, .int p3] (WS cI ad lo hi) (fun u : (Nat → Int32) × (Nat → Int32) => (WS cI ad u.1 u.2)) (fun (u : (Nat → Int32) × (Nat → Int32)) => sm6 (rwX u.1 u.2 a) (rwX lo hi b) (rwX lo hi c0) ∧ (∀ j, (j < 3 * a ∨ 3 * a + 3 ≤ j) → u.1 j = lo j ∧ u.2 j = hi j)) := by
  refine c_ent (cc := cX0_putSum) (maxL := 5) (ret := none) (Qc := fun A => va_Qv (fun (u : (Nat → Int32) × (Nat → Int32)) => sm6 (rwX u.1 u.2 a) (rwX lo hi b) (rwX lo hi c0) ∧ (∀ j, (j < 3 * a ∨ 3 * a + 3 ≤ j) → u.1 j = lo j ∧ u.2 j = hi j)) (cB D [(cI, .int)] A (fun u : (Nat → Int32) × (Nat → Int32) => (WS cI ad u.1 u.2))) A) (by decide) rfl (Nat.le_of_ble_eq_true rfl) ?_
  intro p e s m below meth c A ls hx hb hr hlocks hts hown hml hK hP hD hA hl
  have hS : va_S A s.heap s.heap [] := va_S.rf
  have hl : lv_has ls 5 [(0, .ref (ad 13)), (1, .int p1), (2, .int p2), (3, .int p3)] := hl
  have hP : va_P D vwCl (WS cI ad lo hi) s.heap := hP
  refine c_iconst hx hb dX0_putSum_0 (by decide) (fun v0 i0 => ?_)
  refine lv_istore (lv' := [(4, .int v0), (0, .ref (ad 13)), (1, .int p1), (2, .int p2), (3, .int p3)]) hx hb dX0_putSum_1 hl (by decide) rfl (fun ls hl => ?_)
  have HL3 : ∀ (n : Nat) (k : Nat) (x4 : Int32) (lo1 : Nat → Int32) (hi1 : Nat → Int32) (H : Heap) (locs : List Loc) (ls : Array Slot), (x4.toInt = (k : Int)) → (k ≤ 3) → (4 ≤ k + n) → ((∀ j, (j < 3 * a ∨ 3 * a + k ≤ j) → lo1 j = lo j ∧ hi1 j = hi j)) → ((∀ w, w < k → ((lo1 (3 * a + w)).toInt = (lo (3 * b + w)).toInt + (lo (3 * c0 + w)).toInt ∧ (hi1 (3 * a + w)).toInt = (hi (3 * b + w)).toInt + (hi (3 * c0 + w)).toInt))) → va_P D vwCl (WS cI ad lo1 hi1) H → va_D A (WS cI ad lo1 hi1) → va_S A s.heap H locs → lv_has ls 5 [(0, .ref (ad 13)), (1, .int p1), (2, .int p2), (3, .int p3), (4, .int x4)] → W p l e ({ frames := 2, cells := 0, slots := 0, locals := 46 } : Room) s m [.ref (ad 13), .int p1, .int p2, .int p3].toArray below meth c H locs 0 0 (MQ below (va_Qv (fun (u : (Nat → Int32) × (Nat → Int32)) => sm6 (rwX u.1 u.2 a) (rwX lo hi b) (rwX lo hi c0) ∧ (∀ j, (j < 3 * a ∨ 3 * a + 3 ≤ j) → u.1 j = lo j ∧ u.2 j = hi j)) (cB D [(cI, .int)] A (fun u : (Nat → Int32) × (Nat → Int32) => (WS cI ad u.1 u.2))) A) [.ref (ad 13), .int p1, .int p2, .int p3].toArray s 0 0 A) (F0 m 3 ls []) := by
    intro n
    induction n with
    | zero => intro k x4 lo1 hi1 H locs ls hx4 hk hm hin hva; exact absurd hm (by omega)
    | succ n ih3 =>
      intro k x4 lo1 hi1 H locs ls hx4 hk hm hin hva hP hD hS hl
      refine lv_iload hx hb dX0_putSum_3 (lv_at hl 4 rfl) ?_
      refine c_iconst hx hb dX0_putSum_5 (by decide) (fun v5 i5 => ?_)
      refine c_icmp_ge (tgt := 52) hx hb dX0_putSum_6 (by decide) (fun c6 => ?_) (fun c6 => ?_)
      · skip
        exact c_rv (lo1, hi1) hx hb hr hlocks hK hP hD hS dX0_putSum_52 (by
              have hk3 : k = 3 := by omega
              subst hk3
              have e0 := hva 0 (by omega)
              have e1 := hva 1 (by omega)
              have e2 := hva 2 (by omega)
              exact ⟨⟨e0.1, e0.2, e1.1, e1.2, e2.1, e2.2⟩, hin⟩)
      · skip
        refine lv_aload_n hx hb dX0_putSum_9 rfl (lv_at hl 0 rfl) ?_
        refine lv_iload_n hx hb dX0_putSum_10 rfl (lv_at hl 1 rfl) ?_
        refine lv_iload hx hb dX0_putSum_11 (lv_at hl 4 rfl) ?_
        refine lv_aload_n hx hb dX0_putSum_13 rfl (lv_at hl 0 rfl) ?_
        refine lv_iload_n hx hb dX0_putSum_14 rfl (lv_at hl 2 rfl) ?_
        refine lv_iload hx hb dX0_putSum_15 (lv_at hl 4 rfl) ?_
        refine c_wvi (As := [.int p2, .int x4]) (ci := 0) (q0 := 0) (kX0_low l D cI ad lo1 hi1 p2 x4 (b) (k) (by omega) (by omega) (by omega) (by omega)) ⟨hx, hb, hml, hown, hts⟩ (cwV 2 hts gX0_putSum_X0_low rfl rfl rfl (by decide +kernel) ⟨Nat.le_of_ble_eq_true rfl, Nat.le_of_ble_eq_true rfl⟩) hK hP hD hS hA rfl rfl rfl rfl hl.1 rfl (Nat.le_of_ble_eq_true rfl) dX0_putSum_17 ⟨Nat.zero_le _, Nat.zero_le _⟩ (fun r17 u17 H locs q17 hP hD hS => ?_)
        try dsimp only at q17
        have hP : va_P D vwCl (WS cI ad lo1 hi1) H := hP
        have hD : va_D A (WS cI ad lo1 hi1) := hD
        have y17 : r17.toInt = (lo (3 * b + k)).toInt := by rw [q17, (hin (3 * b + k) (by omega)).1]
        have z17 := bd_at h5 (k := k) (by omega)
        refine lv_aload_n hx hb dX0_putSum_20 rfl (lv_at hl 0 rfl) ?_
        refine lv_iload_n hx hb dX0_putSum_21 rfl (lv_at hl 3 rfl) ?_
        refine lv_iload hx hb dX0_putSum_22 (lv_at hl 4 rfl) ?_
        refine c_wvi (As := [.int p3, .int x4]) (ci := 0) (q0 := 0) (kX0_low l D cI ad lo1 hi1 p3 x4 (c0) (k) (by omega) (by omega) (by omega) (by omega)) ⟨hx, hb, hml, hown, hts⟩ (cwV 2 hts gX0_putSum_X0_low rfl rfl rfl (by decide +kernel) ⟨Nat.le_of_ble_eq_true rfl, Nat.le_of_ble_eq_true rfl⟩) hK hP hD hS hA rfl rfl rfl rfl hl.1 rfl (Nat.le_of_ble_eq_true rfl) dX0_putSum_24 ⟨Nat.zero_le _, Nat.zero_le _⟩ (fun r24 u24 H locs q24 hP hD hS => ?_)
        try dsimp only at q24
        have hP : va_P D vwCl (WS cI ad lo1 hi1) H := hP
        have hD : va_D A (WS cI ad lo1 hi1) := hD
        have y24 : r24.toInt = (lo (3 * c0 + k)).toInt := by rw [q24, (hin (3 * c0 + k) (by omega)).1]
        have z24 := bd_at h6 (k := k) (by omega)
        refine c_iadd hx hb dX0_putSum_27 (by omega) (fun v27 i27 => ?_)
        refine lv_aload_n hx hb dX0_putSum_28 rfl (lv_at hl 0 rfl) ?_
        refine lv_iload_n hx hb dX0_putSum_29 rfl (lv_at hl 2 rfl) ?_
        refine lv_iload hx hb dX0_putSum_30 (lv_at hl 4 rfl) ?_
        refine c_wvi (As := [.int p2, .int x4]) (ci := 0) (q0 := 0) (kX0_high l D cI ad lo1 hi1 p2 x4 (b) (k) (by omega) (by omega) (by omega) (by omega)) ⟨hx, hb, hml, hown, hts⟩ (cwV 2 hts gX0_putSum_X0_high rfl rfl rfl (by decide +kernel) ⟨Nat.le_of_ble_eq_true rfl, Nat.le_of_ble_eq_true rfl⟩) hK hP hD hS hA rfl rfl rfl rfl hl.1 rfl (Nat.le_of_ble_eq_true rfl) dX0_putSum_32 ⟨Nat.zero_le _, Nat.zero_le _⟩ (fun r32 u32 H locs q32 hP hD hS => ?_)
        try dsimp only at q32
        have hP : va_P D vwCl (WS cI ad lo1 hi1) H := hP
        have hD : va_D A (WS cI ad lo1 hi1) := hD
        have y32 : r32.toInt = (hi (3 * b + k)).toInt := by rw [q32, (hin (3 * b + k) (by omega)).2]
        have z32 := bd_at h5 (k := k) (by omega)
        refine lv_aload_n hx hb dX0_putSum_35 rfl (lv_at hl 0 rfl) ?_
        refine lv_iload_n hx hb dX0_putSum_36 rfl (lv_at hl 3 rfl) ?_
        refine lv_iload hx hb dX0_putSum_37 (lv_at hl 4 rfl) ?_
        refine c_wvi (As := [.int p3, .int x4]) (ci := 0) (q0 := 0) (kX0_high l D cI ad lo1 hi1 p3 x4 (c0) (k) (by omega) (by omega) (by omega) (by omega)) ⟨hx, hb, hml, hown, hts⟩ (cwV 2 hts gX0_putSum_X0_high rfl rfl rfl (by decide +kernel) ⟨Nat.le_of_ble_eq_true rfl, Nat.le_of_ble_eq_true rfl⟩) hK hP hD hS hA rfl rfl rfl rfl hl.1 rfl (Nat.le_of_ble_eq_true rfl) dX0_putSum_39 ⟨Nat.zero_le _, Nat.zero_le _⟩ (fun r39 u39 H locs q39 hP hD hS => ?_)
        try dsimp only at q39
        have hP : va_P D vwCl (WS cI ad lo1 hi1) H := hP
        have hD : va_D A (WS cI ad lo1 hi1) := hD
        have y39 : r39.toInt = (hi (3 * c0 + k)).toInt := by rw [q39, (hin (3 * c0 + k) (by omega)).2]
        have z39 := bd_at h6 (k := k) (by omega)
        refine c_iadd hx hb dX0_putSum_42 (by omega) (fun v42 i42 => ?_)
        refine c_wvv (As := [.int p1, .int x4, .int v27, .int v42]) (ci := 0) (q0 := 0) (kX0_put l D cI ad lo1 hi1 p1 x4 v27 v42 (a) (k) (by omega) (by omega) (by omega) (by omega)) ⟨hx, hb, hml, hown, hts⟩ (cwV 4 hts gX0_putSum_X0_put rfl rfl rfl (by decide +kernel) ⟨Nat.le_of_ble_eq_true rfl, Nat.le_of_ble_eq_true rfl⟩) hK hP hD hS hA rfl rfl rfl rfl hl.1 rfl (Nat.le_of_ble_eq_true rfl) dX0_putSum_43 ⟨Nat.zero_le _, Nat.zero_le _⟩ (fun u43 H locs q43 hP hD hS => ?_)
        try dsimp only at q43
        have hP : va_P D vwCl (WS cI ad (upd lo1 (3 * (a) + (k)) v27) (upd hi1 (3 * (a) + (k)) v42)) H := hP
        have hD : va_D A (WS cI ad (upd lo1 (3 * (a) + (k)) v27) (upd hi1 (3 * (a) + (k)) v42)) := hD
        refine c_iinc (k := 4) hx hb (fun v46 => [(4, .int v46), (0, .ref (ad 13)), (1, .int p1), (2, .int p2), (3, .int p3)]) dX0_putSum_46 hl rfl (by decide) (by omega) (by decide) (fun _ => rfl) (fun v46 ls i46 hl => ?_)
        have hl : lv_has ls 5 [(4, .int v46), (0, .ref (ad 13)), (1, .int p1), (2, .int p2), (3, .int p3)] := hl
        refine lv_goto (tgt := 3) hx hb dX0_putSum_49 (by decide) ?_
        exact ih3 (k + 1) v46 (upd lo1 (3 * a + k) v27) (upd hi1 (3 * a + k) v42) _ _ _ (by omega) (by omega) (by omega) (fun j hj => ⟨(pk_un (by omega)).trans (hin j (by omega)).1, (pk_un (by omega)).trans (hin j (by omega)).2⟩) (fun w hw => by
                  rcases Nat.lt_or_ge w k with q | q
                  · rw [pk_un (by omega), pk_un (by omega)]; exact hva w q
                  · have hwk : w = k := by omega
                    subst hwk; rw [pk_us, pk_us]; constructor <;> omega) hP hD hS (lv_sub hl [1, 2, 3, 4, 0] rfl)
  exact HL3 4 0 v0 lo hi _ _ _ (by omega) (by omega) (by omega) (fun j _ => ⟨rfl, rfl⟩) (fun w h => absurd h (by omega)) hP hD hS (lv_sub hl [1, 2, 3, 4, 0] rfl)
set_option maxHeartbeats 4000000 in
set_option maxRecDepth 100000 in
theorem kX0_cutByDifference (l : Launch) (D : va_G) (cI : ClassId) (ad : Nat → Nat) (lo : Nat → Int32) (hi : Nat → Int32) (p1 : Int32) (p2 : Int32) (p3 : Int32) (a : Nat) (b : Nat) (c0 : Nat) (h1 : p1.toInt = (a : Int)) (h2 : p2.toInt = (b : Int)) (h3 : p3.toInt = (c0 : Int)) (h4 : a ≤ 61 ∧ b ≤ 61 ∧ c0 ≤ 61 ∧ a ≠ b ∧ a ≠ c0) (h5 : bd (rwX lo hi b) 100000000) (h6 : bd (rwX lo hi c0) 100000000) : MV l yX0_cutByDifference wsX0_cutByDifference ({ frames := 2, cells := 0, slots := 0, locals := 46 } : Room) D [(cI, .int)] [.ref (ad 13), .int p1, .int p2, .int p3] (WS cI ad lo hi) (fun u : (Nat → Int32) × (Nat → Int32) => (WS cI ad u.1 u.2)) (fun (u : (Nat → Int32) × (Nat → Int32)) => cd6 (rwX u.1 u.2 a) (rwX lo hi a) (rwX lo hi b) (rwX lo hi c0) ∧ (∀ j, (j < 3 * a ∨ 3 * a + 3 ≤ j) → u.1 j = lo j ∧ u.2 j = hi j)) := by
  refine c_ent (cc := cX0_cutByDifference) (maxL := 5) (ret := none) (Qc := fun A => va_Qv (fun (u : (Nat → Int32) × (Nat → Int32)) => cd6 (rwX u.1 u.2 a) (rwX lo hi a) (rwX lo hi b) (rwX lo hi c0) ∧ (∀ j, (j < 3 * a ∨ 3 * a + 3 ≤ j) → u.1 j = lo j ∧ u.2 j = hi j)) (cB D [(cI, .int)] A (fun u : (Nat → Int32) × (Nat → Int32) => (WS cI ad u.1 u.2))) A) (by decide) rfl (Nat.le_of_ble_eq_true rfl) ?_
  intro p e s m below meth c A ls hx hb hr hlocks hts hown hml hK hP hD hA hl
  have hS : va_S A s.heap s.heap [] := va_S.rf
  have hl : lv_has ls 5 [(0, .ref (ad 13)), (1, .int p1), (2, .int p2), (3, .int p3)] := hl
  have hP : va_P D vwCl (WS cI ad lo hi) s.heap := hP
  refine c_iconst hx hb dX0_cutByDifference_0 (by decide) (fun v0 i0 => ?_)
  refine lv_istore (lv' := [(4, .int v0), (0, .ref (ad 13)), (1, .int p1), (2, .int p2), (3, .int p3)]) hx hb dX0_cutByDifference_1 hl (by decide) rfl (fun ls hl => ?_)
  have HL3 : ∀ (n : Nat) (k : Nat) (x4 : Int32) (lo1 : Nat → Int32) (hi1 : Nat → Int32) (H : Heap) (locs : List Loc) (ls : Array Slot), (x4.toInt = (k : Int)) → (k ≤ 3) → (4 ≤ k + n) → ((∀ j, (j < 3 * a ∨ 3 * a + k ≤ j) → lo1 j = lo j ∧ hi1 j = hi j)) → ((∀ w, w < k → ((lo1 (3 * a + w)).toInt = max (lo (3 * a + w)).toInt ((lo (3 * b + w)).toInt - (hi (3 * c0 + w)).toInt) ∧ (hi1 (3 * a + w)).toInt = min (hi (3 * a + w)).toInt ((hi (3 * b + w)).toInt - (lo (3 * c0 + w)).toInt)))) → va_P D vwCl (WS cI ad lo1 hi1) H → va_D A (WS cI ad lo1 hi1) → va_S A s.heap H locs → lv_has ls 5 [(0, .ref (ad 13)), (1, .int p1), (2, .int p2), (3, .int p3), (4, .int x4)] → W p l e ({ frames := 2, cells := 0, slots := 0, locals := 46 } : Room) s m [.ref (ad 13), .int p1, .int p2, .int p3].toArray below meth c H locs 0 0 (MQ below (va_Qv (fun (u : (Nat → Int32) × (Nat → Int32)) => cd6 (rwX u.1 u.2 a) (rwX lo hi a) (rwX lo hi b) (rwX lo hi c0) ∧ (∀ j, (j < 3 * a ∨ 3 * a + 3 ≤ j) → u.1 j = lo j ∧ u.2 j = hi j)) (cB D [(cI, .int)] A (fun u : (Nat → Int32) × (Nat → Int32) => (WS cI ad u.1 u.2))) A) [.ref (ad 13), .int p1, .int p2, .int p3].toArray s 0 0 A) (F0 m 3 ls []) := by
    intro n
    induction n with
    | zero => intro k x4 lo1 hi1 H locs ls hx4 hk hm hin hva; exact absurd hm (by omega)
    | succ n ih3 =>
      intro k x4 lo1 hi1 H locs ls hx4 hk hm hin hva hP hD hS hl
      refine lv_iload hx hb dX0_cutByDifference_3 (lv_at hl 4 rfl) ?_
      refine c_iconst hx hb dX0_cutByDifference_5 (by decide) (fun v5 i5 => ?_)
      refine c_icmp_ge (tgt := 52) hx hb dX0_cutByDifference_6 (by decide) (fun c6 => ?_) (fun c6 => ?_)
      · skip
        exact c_rv (lo1, hi1) hx hb hr hlocks hK hP hD hS dX0_cutByDifference_52 (by
              have hk3 : k = 3 := by omega
              subst hk3
              have e0 := hva 0 (by omega)
              have e1 := hva 1 (by omega)
              have e2 := hva 2 (by omega)
              exact ⟨⟨e0.1, e0.2, e1.1, e1.2, e2.1, e2.2⟩, hin⟩)
      · skip
        refine lv_aload_n hx hb dX0_cutByDifference_9 rfl (lv_at hl 0 rfl) ?_
        refine lv_iload_n hx hb dX0_cutByDifference_10 rfl (lv_at hl 1 rfl) ?_
        refine lv_iload hx hb dX0_cutByDifference_11 (lv_at hl 4 rfl) ?_
        refine lv_aload_n hx hb dX0_cutByDifference_13 rfl (lv_at hl 0 rfl) ?_
        refine lv_iload_n hx hb dX0_cutByDifference_14 rfl (lv_at hl 2 rfl) ?_
        refine lv_iload hx hb dX0_cutByDifference_15 (lv_at hl 4 rfl) ?_
        refine c_wvi (As := [.int p2, .int x4]) (ci := 0) (q0 := 0) (kX0_low l D cI ad lo1 hi1 p2 x4 (b) (k) (by omega) (by omega) (by omega) (by omega)) ⟨hx, hb, hml, hown, hts⟩ (cwV 2 hts gX0_cutByDifference_X0_low rfl rfl rfl (by decide +kernel) ⟨Nat.le_of_ble_eq_true rfl, Nat.le_of_ble_eq_true rfl⟩) hK hP hD hS hA rfl rfl rfl rfl hl.1 rfl (Nat.le_of_ble_eq_true rfl) dX0_cutByDifference_17 ⟨Nat.zero_le _, Nat.zero_le _⟩ (fun r17 u17 H locs q17 hP hD hS => ?_)
        try dsimp only at q17
        have hP : va_P D vwCl (WS cI ad lo1 hi1) H := hP
        have hD : va_D A (WS cI ad lo1 hi1) := hD
        have y17 : r17.toInt = (lo (3 * b + k)).toInt := by rw [q17, (hin (3 * b + k) (by omega)).1]
        have z17 := bd_at h5 (k := k) (by omega)
        refine lv_aload_n hx hb dX0_cutByDifference_20 rfl (lv_at hl 0 rfl) ?_
        refine lv_iload_n hx hb dX0_cutByDifference_21 rfl (lv_at hl 3 rfl) ?_
        refine lv_iload hx hb dX0_cutByDifference_22 (lv_at hl 4 rfl) ?_
        refine c_wvi (As := [.int p3, .int x4]) (ci := 0) (q0 := 0) (kX0_high l D cI ad lo1 hi1 p3 x4 (c0) (k) (by omega) (by omega) (by omega) (by omega)) ⟨hx, hb, hml, hown, hts⟩ (cwV 2 hts gX0_cutByDifference_X0_high rfl rfl rfl (by decide +kernel) ⟨Nat.le_of_ble_eq_true rfl, Nat.le_of_ble_eq_true rfl⟩) hK hP hD hS hA rfl rfl rfl rfl hl.1 rfl (Nat.le_of_ble_eq_true rfl) dX0_cutByDifference_24 ⟨Nat.zero_le _, Nat.zero_le _⟩ (fun r24 u24 H locs q24 hP hD hS => ?_)
        try dsimp only at q24
        have hP : va_P D vwCl (WS cI ad lo1 hi1) H := hP
        have hD : va_D A (WS cI ad lo1 hi1) := hD
        have y24 : r24.toInt = (hi (3 * c0 + k)).toInt := by rw [q24, (hin (3 * c0 + k) (by omega)).2]
        have z24 := bd_at h6 (k := k) (by omega)
        refine c_isub hx hb dX0_cutByDifference_27 (by omega) (fun v27 i27 => ?_)
        refine lv_aload_n hx hb dX0_cutByDifference_28 rfl (lv_at hl 0 rfl) ?_
        refine lv_iload_n hx hb dX0_cutByDifference_29 rfl (lv_at hl 2 rfl) ?_
        refine lv_iload hx hb dX0_cutByDifference_30 (lv_at hl 4 rfl) ?_
        refine c_wvi (As := [.int p2, .int x4]) (ci := 0) (q0 := 0) (kX0_high l D cI ad lo1 hi1 p2 x4 (b) (k) (by omega) (by omega) (by omega) (by omega)) ⟨hx, hb, hml, hown, hts⟩ (cwV 2 hts gX0_cutByDifference_X0_high rfl rfl rfl (by decide +kernel) ⟨Nat.le_of_ble_eq_true rfl, Nat.le_of_ble_eq_true rfl⟩) hK hP hD hS hA rfl rfl rfl rfl hl.1 rfl (Nat.le_of_ble_eq_true rfl) dX0_cutByDifference_32 ⟨Nat.zero_le _, Nat.zero_le _⟩ (fun r32 u32 H locs q32 hP hD hS => ?_)
        try dsimp only at q32
        have hP : va_P D vwCl (WS cI ad lo1 hi1) H := hP
        have hD : va_D A (WS cI ad lo1 hi1) := hD
        have y32 : r32.toInt = (hi (3 * b + k)).toInt := by rw [q32, (hin (3 * b + k) (by omega)).2]
        have z32 := bd_at h5 (k := k) (by omega)
        refine lv_aload_n hx hb dX0_cutByDifference_35 rfl (lv_at hl 0 rfl) ?_
        refine lv_iload_n hx hb dX0_cutByDifference_36 rfl (lv_at hl 3 rfl) ?_
        refine lv_iload hx hb dX0_cutByDifference_37 (lv_at hl 4 rfl) ?_
        refine c_wvi (As := [.int p3, .int x4]) (ci := 0) (q0 := 0) (kX0_low l D cI ad lo1 hi1 p3 x4 (c0) (k) (by omega) (by omega) (by omega) (by omega)) ⟨hx, hb, hml, hown, hts⟩ (cwV 2 hts gX0_cutByDifference_X0_low rfl rfl rfl (by decide +kernel) ⟨Nat.le_of_ble_eq_true rfl, Nat.le_of_ble_eq_true rfl⟩) hK hP hD hS hA rfl rfl rfl rfl hl.1 rfl (Nat.le_of_ble_eq_true rfl) dX0_cutByDifference_39 ⟨Nat.zero_le _, Nat.zero_le _⟩ (fun r39 u39 H locs q39 hP hD hS => ?_)
        try dsimp only at q39
        have hP : va_P D vwCl (WS cI ad lo1 hi1) H := hP
        have hD : va_D A (WS cI ad lo1 hi1) := hD
        have y39 : r39.toInt = (lo (3 * c0 + k)).toInt := by rw [q39, (hin (3 * c0 + k) (by omega)).1]
        have z39 := bd_at h6 (k := k) (by omega)
        refine c_isub hx hb dX0_cutByDifference_42 (by omega) (fun v42 i42 => ?_)
        refine c_wvv (As := [.int p1, .int x4, .int v27, .int v42]) (ci := 0) (q0 := 0) (kX0_cut l D cI ad lo1 hi1 p1 x4 v27 v42 (a) (k) (by omega) (by omega) (by omega) (by omega)) ⟨hx, hb, hml, hown, hts⟩ (cwV 4 hts gX0_cutByDifference_X0_cut rfl rfl rfl (by decide +kernel) ⟨Nat.le_of_ble_eq_true rfl, Nat.le_of_ble_eq_true rfl⟩) hK hP hD hS hA rfl rfl rfl rfl hl.1 rfl (Nat.le_of_ble_eq_true rfl) dX0_cutByDifference_43 ⟨Nat.zero_le _, Nat.zero_le _⟩ (fun u43 H locs q43 hP hD hS => ?_)
        try dsimp only at q43
        have hP : va_P D vwCl (WS cI ad (upd lo1 (3 * (a) + (k)) u43.1) (upd hi1 (3 * (a) + (k)) u43.2)) H := hP
        have hD : va_D A (WS cI ad (upd lo1 (3 * (a) + (k)) u43.1) (upd hi1 (3 * (a) + (k)) u43.2)) := hD
        rw [(hin (3 * a + k) (by omega)).1, (hin (3 * a + k) (by omega)).2] at q43
        refine c_iinc (k := 4) hx hb (fun v46 => [(4, .int v46), (0, .ref (ad 13)), (1, .int p1), (2, .int p2), (3, .int p3)]) dX0_cutByDifference_46 hl rfl (by decide) (by omega) (by decide) (fun _ => rfl) (fun v46 ls i46 hl => ?_)
        have hl : lv_has ls 5 [(4, .int v46), (0, .ref (ad 13)), (1, .int p1), (2, .int p2), (3, .int p3)] := hl
        refine lv_goto (tgt := 3) hx hb dX0_cutByDifference_49 (by decide) ?_
        exact ih3 (k + 1) v46 (upd lo1 (3 * a + k) u43.1) (upd hi1 (3 * a + k) u43.2) _ _ _ (by omega) (by omega) (by omega) (fun j hj => ⟨(pk_un (by omega)).trans (hin j (by omega)).1, (pk_un (by omega)).trans (hin j (by omega)).2⟩) (fun w hw => by
                  rcases Nat.lt_or_ge w k with q | q
                  · rw [pk_un (by omega), pk_un (by omega)]; exact hva w q
                  · have hwk : w = k := by omega
                    subst hwk; rw [pk_us, pk_us]
                    have e1 : u43.1.toInt = max _ _ := q43.1
                    have e2 : u43.2.toInt = min _ _ := q43.2
                    rw [e1, e2, i27, i42, y17, y24, y32, y39]; exact ⟨rfl, rfl⟩) hP hD hS (lv_sub hl [1, 2, 3, 4, 0] rfl)
  exact HL3 4 0 v0 lo hi _ _ _ (by omega) (by omega) (by omega) (fun j _ => ⟨rfl, rfl⟩) (fun w h => absurd h (by omega)) hP hD hS (lv_sub hl [1, 2, 3, 4, 0] rfl)
set_option maxHeartbeats 4000000 in
set_option maxRecDepth 100000 in
theorem kX0_isSpan (l : Launch) (D : va_G) (cI : ClassId) (ad : Nat → Nat) (lo : Nat → Int32) (hi : Nat → Int32) (p1 : Int32) (p2 : Int32) (a : Nat) (w : Nat) (h1 : p1.toInt = (a : Int)) (h2 : p2.toInt = (w : Int)) (h3 : a ≤ 61) (h4 : w ≤ 2) : MI l yX0_isSpan wsX0_isSpan ({ frames := 1, cells := 0, slots := 0, locals := 21 } : Room) D [(cI, .int)] [.ref (ad 13), .int p1, .int p2] (WS cI ad lo hi) (fun u : Unit => (WS cI ad lo hi)) (fun (r : Int32) (_ : Unit) => (r.toInt = 1 ∧ (lo (3 * a + w)).toInt ≤ (hi (3 * a + w)).toInt) ∨ (r.toInt = 0 ∧ (hi (3 * a + w)).toInt < (lo (3 * a + w)).toInt)) := by
  refine c_ent (cc := cX0_isSpan) (maxL := 4) (ret := (some .boolean)) (Qc := fun A => va_Qi (fun (r : Int32) (_ : Unit) => (r.toInt = 1 ∧ (lo (3 * a + w)).toInt ≤ (hi (3 * a + w)).toInt) ∨ (r.toInt = 0 ∧ (hi (3 * a + w)).toInt < (lo (3 * a + w)).toInt)) (cB D [(cI, .int)] A (fun u : Unit => (WS cI ad lo hi))) A) (by decide) rfl (Nat.le_of_ble_eq_true rfl) ?_
  intro p e s m below meth c A ls hx hb hr hlocks hts hown hml hK hP hD hA hl
  have hS : va_S A s.heap s.heap [] := va_S.rf
  have hl : lv_has ls 4 [(0, .ref (ad 13)), (1, .int p1), (2, .int p2)] := hl
  have hP : va_P D vwCl (WS cI ad lo hi) s.heap := hP
  have fl9 := hts (.fieldLink RX0 9 "DoorBench$Spans" "lows" "[I") (by decide +kernel)
  have fl15 := hts (.fieldLink RX0 15 "DoorBench$Spans" "highs" "[I") (by decide +kernel)
  have inX0 : ∀ w ∈ wsX00, w ∈ wsX0_isSpan := by decide +kernel
  refine lv_iload_n hx hb dX0_isSpan_0 rfl (lv_at hl 1 rfl) ?_
  refine lv_iload_n hx hb dX0_isSpan_1 rfl (lv_at hl 2 rfl) ?_
  refine c_cpi (As := [.int p1, .int p2]) (kX0_at l D cI p1 p2 (a) (w) (by omega) (by omega) (by omega) (by omega)) ⟨hx, hb, hml, hown, hts⟩ (va_cwS 2 hts gX0_isSpan_X0_at rfl rfl rfl (by decide +kernel) ⟨Nat.le_of_ble_eq_true rfl, Nat.le_of_ble_eq_true rfl⟩) hK hP hS hA rfl hl.1 rfl (Nat.le_of_ble_eq_true rfl) dX0_isSpan_2 ⟨Nat.zero_le _, Nat.zero_le _⟩ (fun r2 H locs q2 hP hS => ?_)
  try dsimp only at q2
  refine lv_istore_n (lv' := [(3, .int r2), (0, .ref (ad 13)), (1, .int p1), (2, .int p2)]) hx hb dX0_isSpan_5 rfl hl (by decide) rfl (fun ls hl => ?_)
  refine lv_aload_n hx hb dX0_isSpan_6 rfl (lv_at hl 1 rfl) ?_
  refine va_get (D := D) (ci := 0) (v := .ref (ad 14)) (C := RX0) (T := TX0) (N := 2) hx hb hts inX0 hown hK hP 0 rfl rfl 0 (by decide) fl9 (fun _ h9 => h9) rfl dX0_isSpan_7 ?_
  refine lv_iload_n hx hb dX0_isSpan_10 rfl (lv_at hl 0 rfl) ?_
  refine c_iald hx hb hK hP 1 0 rfl rfl (3 * a + w) (by omega) (by omega) dX0_isSpan_11 (fun v11 e11 => ?_)
  have i11 : v11.toInt = (lo (3 * a + w)).toInt := by rw [e11]
  refine lv_aload_n hx hb dX0_isSpan_12 rfl (lv_at hl 1 rfl) ?_
  refine va_get (D := D) (ci := 0) (v := .ref (ad 15)) (C := RX0) (T := TX0) (N := 2) hx hb hts inX0 hown hK hP 0 rfl rfl 1 (by decide) fl15 (fun _ h9 => h9) rfl dX0_isSpan_13 ?_
  refine lv_iload_n hx hb dX0_isSpan_16 rfl (lv_at hl 0 rfl) ?_
  refine c_iald hx hb hK hP 2 0 rfl rfl (3 * a + w) (by omega) (by omega) dX0_isSpan_17 (fun v17 e17 => ?_)
  have i17 : v17.toInt = (hi (3 * a + w)).toInt := by rw [e17]
  refine c_icmp_gt (tgt := 25) hx hb dX0_isSpan_18 (by decide) (fun c18 => ?_) (fun c18 => ?_)
  · skip
    refine c_iconst hx hb dX0_isSpan_25 (by decide) (fun v25 i25 => ?_)
    exact c_rz () hx hb hr hlocks hK hP hD hS dX0_isSpan_26 (by omega) (by (try dsimp only); omega)
  · skip
    refine c_iconst hx hb dX0_isSpan_21 (by decide) (fun v21 i21 => ?_)
    refine lv_goto (tgt := 26) hx hb dX0_isSpan_22 (by decide) ?_
    exact c_rz () hx hb hr hlocks hK hP hD hS dX0_isSpan_26 (by omega) (by (try dsimp only); omega)
set_option maxHeartbeats 4000000 in
set_option maxRecDepth 100000 in
theorem kX0_tighten (l : Launch) (D : va_G) (cI : ClassId) (ad : Nat → Nat) (lo : Nat → Int32) (hi : Nat → Int32) (p1 : Int32) (a : Nat) (h1 : p1.toInt = (a : Int)) (h2 : a ≤ 61) (h3 : bd (rwX lo hi a) 100000000) : MI l yX0_tighten wsX0_tighten ({ frames := 3, cells := 0, slots := 0, locals := 65 } : Room) D [(cI, .int)] [.ref (ad 13), .int p1] (WS cI ad lo hi) (fun u : (Nat → Int32) × (Nat → Int32) => (WS cI ad u.1 u.2)) (fun (r : Int32) (u : (Nat → Int32) × (Nat → Int32)) => isTg (rwX u.1 u.2 a) (rwX lo hi a) ∧ (∀ j, (j < 3 * a ∨ 3 * a + 3 ≤ j) → u.1 j = lo j ∧ u.2 j = hi j) ∧ ((r.toInt = 1 ∧ ok6 (rwX u.1 u.2 a)) ∨ (r.toInt = 0 ∧ ¬ ok6 (rwX u.1 u.2 a)))) := by
  refine c_ent (cc := cX0_tighten) (maxL := 8) (ret := (some .boolean)) (Qc := fun A => va_Qi (fun (r : Int32) (u : (Nat → Int32) × (Nat → Int32)) => isTg (rwX u.1 u.2 a) (rwX lo hi a) ∧ (∀ j, (j < 3 * a ∨ 3 * a + 3 ≤ j) → u.1 j = lo j ∧ u.2 j = hi j) ∧ ((r.toInt = 1 ∧ ok6 (rwX u.1 u.2 a)) ∨ (r.toInt = 0 ∧ ¬ ok6 (rwX u.1 u.2 a)))) (cB D [(cI, .int)] A (fun u : (Nat → Int32) × (Nat → Int32) => (WS cI ad u.1 u.2))) A) (by decide) rfl (Nat.le_of_ble_eq_true rfl) ?_
  intro p e s m below meth c A ls hx hb hr hlocks hts hown hml hK hP hD hA hl
  have hS : va_S A s.heap s.heap [] := va_S.rf
  have hl : lv_has ls 8 [(0, .ref (ad 13)), (1, .int p1)] := hl
  have hP : va_P D vwCl (WS cI ad lo hi) s.heap := hP
  obtain ⟨b0, b1, b2, b3, b4, b5⟩ := id h3
  refine lv_aload_n hx hb dX0_tighten_0 rfl (lv_at hl 0 rfl) ?_
  refine lv_iload_n hx hb dX0_tighten_1 rfl (lv_at hl 1 rfl) ?_
  refine c_iconst hx hb dX0_tighten_2 (by decide) (fun v2 i2 => ?_)
  refine c_wvi (As := [.int p1, .int v2]) (ci := 0) (q0 := 0) (kX0_low l D cI ad lo hi p1 v2 (a) (0) (by omega) (by omega) (by omega) (by omega)) ⟨hx, hb, hml, hown, hts⟩ (cwV 2 hts gX0_tighten_X0_low rfl rfl rfl (by decide +kernel) ⟨Nat.le_of_ble_eq_true rfl, Nat.le_of_ble_eq_true rfl⟩) hK hP hD hS hA rfl rfl rfl rfl hl.1 rfl (Nat.le_of_ble_eq_true rfl) dX0_tighten_3 ⟨Nat.zero_le _, Nat.zero_le _⟩ (fun r3 u3 H locs q3 hP hD hS => ?_)
  try dsimp only at q3
  have hP : va_P D vwCl (WS cI ad lo hi) H := hP
  have hD : va_D A (WS cI ad lo hi) := hD
  have y3 : r3.toInt = rwX lo hi a 0 := by rw [q3]; rfl
  refine lv_istore_n (lv' := [(2, .int r3), (0, .ref (ad 13)), (1, .int p1)]) hx hb dX0_tighten_6 rfl hl (by decide) rfl (fun ls hl => ?_)
  refine lv_aload_n hx hb dX0_tighten_7 rfl (lv_at hl 1 rfl) ?_
  refine lv_iload_n hx hb dX0_tighten_8 rfl (lv_at hl 2 rfl) ?_
  refine c_iconst hx hb dX0_tighten_9 (by decide) (fun v9 i9 => ?_)
  refine c_wvi (As := [.int p1, .int v9]) (ci := 0) (q0 := 0) (kX0_high l D cI ad lo hi p1 v9 (a) (0) (by omega) (by omega) (by omega) (by omega)) ⟨hx, hb, hml, hown, hts⟩ (cwV 2 hts gX0_tighten_X0_high rfl rfl rfl (by decide +kernel) ⟨Nat.le_of_ble_eq_true rfl, Nat.le_of_ble_eq_true rfl⟩) hK hP hD hS hA rfl rfl rfl rfl hl.1 rfl (Nat.le_of_ble_eq_true rfl) dX0_tighten_10 ⟨Nat.zero_le _, Nat.zero_le _⟩ (fun r10 u10 H locs q10 hP hD hS => ?_)
  try dsimp only at q10
  have hP : va_P D vwCl (WS cI ad lo hi) H := hP
  have hD : va_D A (WS cI ad lo hi) := hD
  have y10 : r10.toInt = rwX lo hi a 1 := by rw [q10]; rfl
  refine lv_istore_n (lv' := [(3, .int r10), (2, .int r3), (0, .ref (ad 13)), (1, .int p1)]) hx hb dX0_tighten_13 rfl hl (by decide) rfl (fun ls hl => ?_)
  refine lv_aload_n hx hb dX0_tighten_14 rfl (lv_at hl 2 rfl) ?_
  refine lv_iload_n hx hb dX0_tighten_15 rfl (lv_at hl 3 rfl) ?_
  refine c_iconst hx hb dX0_tighten_16 (by decide) (fun v16 i16 => ?_)
  refine c_wvi (As := [.int p1, .int v16]) (ci := 0) (q0 := 0) (kX0_low l D cI ad lo hi p1 v16 (a) (1) (by omega) (by omega) (by omega) (by omega)) ⟨hx, hb, hml, hown, hts⟩ (cwV 2 hts gX0_tighten_X0_low rfl rfl rfl (by decide +kernel) ⟨Nat.le_of_ble_eq_true rfl, Nat.le_of_ble_eq_true rfl⟩) hK hP hD hS hA rfl rfl rfl rfl hl.1 rfl (Nat.le_of_ble_eq_true rfl) dX0_tighten_17 ⟨Nat.zero_le _, Nat.zero_le _⟩ (fun r17 u17 H locs q17 hP hD hS => ?_)
  try dsimp only at q17
  have hP : va_P D vwCl (WS cI ad lo hi) H := hP
  have hD : va_D A (WS cI ad lo hi) := hD
  have y17 : r17.toInt = rwX lo hi a 2 := by rw [q17]; rfl
  refine lv_istore (lv' := [(4, .int r17), (3, .int r10), (2, .int r3), (0, .ref (ad 13)), (1, .int p1)]) hx hb dX0_tighten_20 hl (by decide) rfl (fun ls hl => ?_)
  refine lv_aload_n hx hb dX0_tighten_22 rfl (lv_at hl 3 rfl) ?_
  refine lv_iload_n hx hb dX0_tighten_23 rfl (lv_at hl 4 rfl) ?_
  refine c_iconst hx hb dX0_tighten_24 (by decide) (fun v24 i24 => ?_)
  refine c_wvi (As := [.int p1, .int v24]) (ci := 0) (q0 := 0) (kX0_high l D cI ad lo hi p1 v24 (a) (1) (by omega) (by omega) (by omega) (by omega)) ⟨hx, hb, hml, hown, hts⟩ (cwV 2 hts gX0_tighten_X0_high rfl rfl rfl (by decide +kernel) ⟨Nat.le_of_ble_eq_true rfl, Nat.le_of_ble_eq_true rfl⟩) hK hP hD hS hA rfl rfl rfl rfl hl.1 rfl (Nat.le_of_ble_eq_true rfl) dX0_tighten_25 ⟨Nat.zero_le _, Nat.zero_le _⟩ (fun r25 u25 H locs q25 hP hD hS => ?_)
  try dsimp only at q25
  have hP : va_P D vwCl (WS cI ad lo hi) H := hP
  have hD : va_D A (WS cI ad lo hi) := hD
  have y25 : r25.toInt = rwX lo hi a 3 := by rw [q25]; rfl
  refine lv_istore (lv' := [(5, .int r25), (4, .int r17), (3, .int r10), (2, .int r3), (0, .ref (ad 13)), (1, .int p1)]) hx hb dX0_tighten_28 hl (by decide) rfl (fun ls hl => ?_)
  refine lv_aload_n hx hb dX0_tighten_30 rfl (lv_at hl 4 rfl) ?_
  refine lv_iload_n hx hb dX0_tighten_31 rfl (lv_at hl 5 rfl) ?_
  refine c_iconst hx hb dX0_tighten_32 (by decide) (fun v32 i32 => ?_)
  refine c_wvi (As := [.int p1, .int v32]) (ci := 0) (q0 := 0) (kX0_low l D cI ad lo hi p1 v32 (a) (2) (by omega) (by omega) (by omega) (by omega)) ⟨hx, hb, hml, hown, hts⟩ (cwV 2 hts gX0_tighten_X0_low rfl rfl rfl (by decide +kernel) ⟨Nat.le_of_ble_eq_true rfl, Nat.le_of_ble_eq_true rfl⟩) hK hP hD hS hA rfl rfl rfl rfl hl.1 rfl (Nat.le_of_ble_eq_true rfl) dX0_tighten_33 ⟨Nat.zero_le _, Nat.zero_le _⟩ (fun r33 u33 H locs q33 hP hD hS => ?_)
  try dsimp only at q33
  have hP : va_P D vwCl (WS cI ad lo hi) H := hP
  have hD : va_D A (WS cI ad lo hi) := hD
  have y33 : r33.toInt = rwX lo hi a 4 := by rw [q33]; rfl
  refine lv_istore (lv' := [(6, .int r33), (5, .int r25), (4, .int r17), (3, .int r10), (2, .int r3), (0, .ref (ad 13)), (1, .int p1)]) hx hb dX0_tighten_36 hl (by decide) rfl (fun ls hl => ?_)
  refine lv_aload_n hx hb dX0_tighten_38 rfl (lv_at hl 5 rfl) ?_
  refine lv_iload_n hx hb dX0_tighten_39 rfl (lv_at hl 6 rfl) ?_
  refine c_iconst hx hb dX0_tighten_40 (by decide) (fun v40 i40 => ?_)
  refine c_wvi (As := [.int p1, .int v40]) (ci := 0) (q0 := 0) (kX0_high l D cI ad lo hi p1 v40 (a) (2) (by omega) (by omega) (by omega) (by omega)) ⟨hx, hb, hml, hown, hts⟩ (cwV 2 hts gX0_tighten_X0_high rfl rfl rfl (by decide +kernel) ⟨Nat.le_of_ble_eq_true rfl, Nat.le_of_ble_eq_true rfl⟩) hK hP hD hS hA rfl rfl rfl rfl hl.1 rfl (Nat.le_of_ble_eq_true rfl) dX0_tighten_41 ⟨Nat.zero_le _, Nat.zero_le _⟩ (fun r41 u41 H locs q41 hP hD hS => ?_)
  try dsimp only at q41
  have hP : va_P D vwCl (WS cI ad lo hi) H := hP
  have hD : va_D A (WS cI ad lo hi) := hD
  have y41 : r41.toInt = rwX lo hi a 5 := by rw [q41]; rfl
  refine lv_istore (lv' := [(7, .int r41), (6, .int r33), (5, .int r25), (4, .int r17), (3, .int r10), (2, .int r3), (0, .ref (ad 13)), (1, .int p1)]) hx hb dX0_tighten_44 hl (by decide) rfl (fun ls hl => ?_)
  refine lv_aload_n hx hb dX0_tighten_46 rfl (lv_at hl 6 rfl) ?_
  refine lv_iload_n hx hb dX0_tighten_47 rfl (lv_at hl 7 rfl) ?_
  refine c_iconst hx hb dX0_tighten_48 (by decide) (fun v48 i48 => ?_)
  refine lv_iload hx hb dX0_tighten_49 (lv_at hl 1 rfl) ?_
  refine lv_iload hx hb dX0_tighten_51 (lv_at hl 2 rfl) ?_
  refine c_isub hx hb dX0_tighten_53 (by omega) (fun v53 i53 => ?_)
  refine lv_iload hx hb dX0_tighten_54 (lv_at hl 0 rfl) ?_
  refine lv_iload hx hb dX0_tighten_56 (lv_at hl 3 rfl) ?_
  refine c_isub hx hb dX0_tighten_58 (by omega) (fun v58 i58 => ?_)
  refine c_wvv (As := [.int p1, .int v48, .int v53, .int v58]) (ci := 0) (q0 := 0) (kX0_cut l D cI ad lo hi p1 v48 v53 v58 (a) (0) (by omega) (by omega) (by omega) (by omega)) ⟨hx, hb, hml, hown, hts⟩ (cwV 4 hts gX0_tighten_X0_cut rfl rfl rfl (by decide +kernel) ⟨Nat.le_of_ble_eq_true rfl, Nat.le_of_ble_eq_true rfl⟩) hK hP hD hS hA rfl rfl rfl rfl hl.1 rfl (Nat.le_of_ble_eq_true rfl) dX0_tighten_59 ⟨Nat.zero_le _, Nat.zero_le _⟩ (fun u59 H locs q59 hP hD hS => ?_)
  try dsimp only at q59
  have hP : va_P D vwCl (WS cI ad (upd lo (3 * (a) + (0)) u59.1) (upd hi (3 * (a) + (0)) u59.2)) H := hP
  have hD : va_D A (WS cI ad (upd lo (3 * (a) + (0)) u59.1) (upd hi (3 * (a) + (0)) u59.2)) := hD
  have y59 : isMx u59.1.toInt (rwX lo hi a 0) v53.toInt ∧ isMn u59.2.toInt (rwX lo hi a 1) v58.toInt := q59
  refine lv_aload_n hx hb dX0_tighten_62 rfl (lv_at hl 6 rfl) ?_
  refine lv_iload_n hx hb dX0_tighten_63 rfl (lv_at hl 7 rfl) ?_
  refine c_iconst hx hb dX0_tighten_64 (by decide) (fun v64 i64 => ?_)
  refine lv_iload hx hb dX0_tighten_65 (lv_at hl 1 rfl) ?_
  refine lv_iload_n hx hb dX0_tighten_67 rfl (lv_at hl 4 rfl) ?_
  refine c_isub hx hb dX0_tighten_68 (by omega) (fun v68 i68 => ?_)
  refine lv_iload hx hb dX0_tighten_69 (lv_at hl 0 rfl) ?_
  refine lv_iload_n hx hb dX0_tighten_71 rfl (lv_at hl 5 rfl) ?_
  refine c_isub hx hb dX0_tighten_72 (by omega) (fun v72 i72 => ?_)
  refine c_wvv (As := [.int p1, .int v64, .int v68, .int v72]) (ci := 0) (q0 := 0) (kX0_cut l D cI ad (upd lo (3 * (a) + (0)) u59.1) (upd hi (3 * (a) + (0)) u59.2) p1 v64 v68 v72 (a) (1) (by omega) (by omega) (by omega) (by omega)) ⟨hx, hb, hml, hown, hts⟩ (cwV 4 hts gX0_tighten_X0_cut rfl rfl rfl (by decide +kernel) ⟨Nat.le_of_ble_eq_true rfl, Nat.le_of_ble_eq_true rfl⟩) hK hP hD hS hA rfl rfl rfl rfl hl.1 rfl (Nat.le_of_ble_eq_true rfl) dX0_tighten_73 ⟨Nat.zero_le _, Nat.zero_le _⟩ (fun u73 H locs q73 hP hD hS => ?_)
  try dsimp only at q73
  have hP : va_P D vwCl (WS cI ad (upd (upd lo (3 * (a) + (0)) u59.1) (3 * (a) + (1)) u73.1) (upd (upd hi (3 * (a) + (0)) u59.2) (3 * (a) + (1)) u73.2)) H := hP
  have hD : va_D A (WS cI ad (upd (upd lo (3 * (a) + (0)) u59.1) (3 * (a) + (1)) u73.1) (upd (upd hi (3 * (a) + (0)) u59.2) (3 * (a) + (1)) u73.2)) := hD
  rw [pk_un (by omega), pk_un (by omega)] at q73
  have y73 : isMx u73.1.toInt (rwX lo hi a 2) v68.toInt ∧ isMn u73.2.toInt (rwX lo hi a 3) v72.toInt := q73
  refine lv_aload_n hx hb dX0_tighten_76 rfl (lv_at hl 6 rfl) ?_
  refine lv_iload_n hx hb dX0_tighten_77 rfl (lv_at hl 7 rfl) ?_
  refine c_iconst hx hb dX0_tighten_78 (by decide) (fun v78 i78 => ?_)
  refine lv_iload_n hx hb dX0_tighten_79 rfl (lv_at hl 5 rfl) ?_
  refine lv_iload hx hb dX0_tighten_80 (lv_at hl 3 rfl) ?_
  refine c_iadd hx hb dX0_tighten_82 (by omega) (fun v82 i82 => ?_)
  refine lv_iload_n hx hb dX0_tighten_83 rfl (lv_at hl 4 rfl) ?_
  refine lv_iload hx hb dX0_tighten_84 (lv_at hl 2 rfl) ?_
  refine c_iadd hx hb dX0_tighten_86 (by omega) (fun v86 i86 => ?_)
  refine c_wvv (As := [.int p1, .int v78, .int v82, .int v86]) (ci := 0) (q0 := 0) (kX0_cut l D cI ad (upd (upd lo (3 * (a) + (0)) u59.1) (3 * (a) + (1)) u73.1) (upd (upd hi (3 * (a) + (0)) u59.2) (3 * (a) + (1)) u73.2) p1 v78 v82 v86 (a) (2) (by omega) (by omega) (by omega) (by omega)) ⟨hx, hb, hml, hown, hts⟩ (cwV 4 hts gX0_tighten_X0_cut rfl rfl rfl (by decide +kernel) ⟨Nat.le_of_ble_eq_true rfl, Nat.le_of_ble_eq_true rfl⟩) hK hP hD hS hA rfl rfl rfl rfl hl.1 rfl (Nat.le_of_ble_eq_true rfl) dX0_tighten_87 ⟨Nat.zero_le _, Nat.zero_le _⟩ (fun u87 H locs q87 hP hD hS => ?_)
  try dsimp only at q87
  have hP : va_P D vwCl (WS cI ad (upd (upd (upd lo (3 * (a) + (0)) u59.1) (3 * (a) + (1)) u73.1) (3 * (a) + (2)) u87.1) (upd (upd (upd hi (3 * (a) + (0)) u59.2) (3 * (a) + (1)) u73.2) (3 * (a) + (2)) u87.2)) H := hP
  have hD : va_D A (WS cI ad (upd (upd (upd lo (3 * (a) + (0)) u59.1) (3 * (a) + (1)) u73.1) (3 * (a) + (2)) u87.1) (upd (upd (upd hi (3 * (a) + (0)) u59.2) (3 * (a) + (1)) u73.2) (3 * (a) + (2)) u87.2)) := hD
  rw [pk_un (by omega), pk_un (by omega), pk_un (by omega), pk_un (by omega)] at q87
  have y87 : isMx u87.1.toInt (rwX lo hi a 4) v82.toInt ∧ isMn u87.2.toInt (rwX lo hi a 5) v86.toInt := q87
  have U1 := up3 lo a u59.1 u73.1 u87.1
  have U2 := up3 hi a u59.2 u73.2 u87.2
  obtain ⟨lo3, elo⟩ : ∃ z, z = (upd (upd (upd lo (3 * (a) + (0)) u59.1) (3 * (a) + (1)) u73.1) (3 * (a) + (2)) u87.1) := ⟨_, rfl⟩
  obtain ⟨hi3, ehi⟩ : ∃ z, z = (upd (upd (upd hi (3 * (a) + (0)) u59.2) (3 * (a) + (1)) u73.2) (3 * (a) + (2)) u87.2) := ⟨_, rfl⟩
  rw [← elo, ← ehi] at hP hD
  rw [← elo] at U1
  rw [← ehi] at U2
  have f0 : (lo3 (3 * a + 0)).toInt = u59.1.toInt := by rw [U1.1.1]
  have f1 : (hi3 (3 * a + 0)).toInt = u59.2.toInt := by rw [U2.1.1]
  have f2 : (lo3 (3 * a + 1)).toInt = u73.1.toInt := by rw [U1.1.2.1]
  have f3 : (hi3 (3 * a + 1)).toInt = u73.2.toInt := by rw [U2.1.2.1]
  have f4 : (lo3 (3 * a + 2)).toInt = u87.1.toInt := by rw [U1.1.2.2]
  have f5 : (hi3 (3 * a + 2)).toInt = u87.2.toInt := by rw [U2.1.2.2]
  have hTg : isTg (rwX lo3 hi3 a) (rwX lo hi a) := by
    have e0 : rwX lo3 hi3 a 0 = (lo3 (3 * a + 0)).toInt := rfl
    have e1 : rwX lo3 hi3 a 1 = (hi3 (3 * a + 0)).toInt := rfl
    have e2 : rwX lo3 hi3 a 2 = (lo3 (3 * a + 1)).toInt := rfl
    have e3 : rwX lo3 hi3 a 3 = (hi3 (3 * a + 1)).toInt := rfl
    have e4 : rwX lo3 hi3 a 4 = (lo3 (3 * a + 2)).toInt := rfl
    have e5 : rwX lo3 hi3 a 5 = (hi3 (3 * a + 2)).toInt := rfl
    have g0 : u59.1.toInt = max _ _ := y59.1
    have g1 : u59.2.toInt = min _ _ := y59.2
    have g2 : u73.1.toInt = max _ _ := y73.1
    have g3 : u73.2.toInt = min _ _ := y73.2
    have g4 : u87.1.toInt = max _ _ := y87.1
    have g5 : u87.2.toInt = min _ _ := y87.2
    unfold isTg
    exact ⟨by rw [e0, f0, g0, i53, y33, y25], by rw [e1, f1, g1, i58, y41, y17], by rw [e2, f2, g2, i68, y33, y10], by rw [e3, f3, g3, i72, y41, y3], by rw [e4, f4, g4, i82, y3, y17], by rw [e5, f5, g5, i86, y10, y25]⟩
  have hOk : ok6 (rwX lo3 hi3 a) ↔ ((lo3 (3 * a + 0)).toInt ≤ (hi3 (3 * a + 0)).toInt ∧ (lo3 (3 * a + 1)).toInt ≤ (hi3 (3 * a + 1)).toInt ∧ (lo3 (3 * a + 2)).toInt ≤ (hi3 (3 * a + 2)).toInt) := Iff.rfl
  refine lv_aload_n hx hb dX0_tighten_90 rfl (lv_at hl 6 rfl) ?_
  refine lv_iload_n hx hb dX0_tighten_91 rfl (lv_at hl 7 rfl) ?_
  refine c_iconst hx hb dX0_tighten_92 (by decide) (fun v92 i92 => ?_)
  refine c_wvi (As := [.int p1, .int v92]) (ci := 0) (q0 := 0) (kX0_isSpan l D cI ad lo3 hi3 p1 v92 (a) (0) (by omega) (by omega) (by omega) (by omega)) ⟨hx, hb, hml, hown, hts⟩ (cwV 2 hts gX0_tighten_X0_isSpan rfl rfl rfl (by decide +kernel) ⟨Nat.le_of_ble_eq_true rfl, Nat.le_of_ble_eq_true rfl⟩) hK hP hD hS hA rfl rfl rfl rfl hl.1 rfl (Nat.le_of_ble_eq_true rfl) dX0_tighten_93 ⟨Nat.zero_le _, Nat.zero_le _⟩ (fun r93 u93 H locs q93 hP hD hS => ?_)
  try dsimp only at q93
  have hP : va_P D vwCl (WS cI ad lo3 hi3) H := hP
  have hD : va_D A (WS cI ad lo3 hi3) := hD
  refine c_if_eq (tgt := 121) hx hb dX0_tighten_96 (by decide) (fun c96 => ?_) (fun c96 => ?_)
  · skip
    refine c_iconst hx hb dX0_tighten_121 (by decide) (fun v121 i121 => ?_)
    exact c_rz (lo3, hi3) hx hb hr hlocks hK hP hD hS dX0_tighten_122 (by omega) ⟨hTg, (fun j hj => ⟨U1.2 j hj, U2.2 j hj⟩), (by dsimp only; rw [hOk]; omega)⟩
  · skip
    refine lv_aload_n hx hb dX0_tighten_99 rfl (lv_at hl 6 rfl) ?_
    refine lv_iload_n hx hb dX0_tighten_100 rfl (lv_at hl 7 rfl) ?_
    refine c_iconst hx hb dX0_tighten_101 (by decide) (fun v101 i101 => ?_)
    refine c_wvi (As := [.int p1, .int v101]) (ci := 0) (q0 := 0) (kX0_isSpan l D cI ad lo3 hi3 p1 v101 (a) (1) (by omega) (by omega) (by omega) (by omega)) ⟨hx, hb, hml, hown, hts⟩ (cwV 2 hts gX0_tighten_X0_isSpan rfl rfl rfl (by decide +kernel) ⟨Nat.le_of_ble_eq_true rfl, Nat.le_of_ble_eq_true rfl⟩) hK hP hD hS hA rfl rfl rfl rfl hl.1 rfl (Nat.le_of_ble_eq_true rfl) dX0_tighten_102 ⟨Nat.zero_le _, Nat.zero_le _⟩ (fun r102 u102 H locs q102 hP hD hS => ?_)
    try dsimp only at q102
    have hP : va_P D vwCl (WS cI ad lo3 hi3) H := hP
    have hD : va_D A (WS cI ad lo3 hi3) := hD
    refine c_if_eq (tgt := 121) hx hb dX0_tighten_105 (by decide) (fun c105 => ?_) (fun c105 => ?_)
    · skip
      refine c_iconst hx hb dX0_tighten_121 (by decide) (fun v121_2 i121_2 => ?_)
      exact c_rz (lo3, hi3) hx hb hr hlocks hK hP hD hS dX0_tighten_122 (by omega) ⟨hTg, (fun j hj => ⟨U1.2 j hj, U2.2 j hj⟩), (by dsimp only; rw [hOk]; omega)⟩
    · skip
      refine lv_aload_n hx hb dX0_tighten_108 rfl (lv_at hl 6 rfl) ?_
      refine lv_iload_n hx hb dX0_tighten_109 rfl (lv_at hl 7 rfl) ?_
      refine c_iconst hx hb dX0_tighten_110 (by decide) (fun v110 i110 => ?_)
      refine c_wvi (As := [.int p1, .int v110]) (ci := 0) (q0 := 0) (kX0_isSpan l D cI ad lo3 hi3 p1 v110 (a) (2) (by omega) (by omega) (by omega) (by omega)) ⟨hx, hb, hml, hown, hts⟩ (cwV 2 hts gX0_tighten_X0_isSpan rfl rfl rfl (by decide +kernel) ⟨Nat.le_of_ble_eq_true rfl, Nat.le_of_ble_eq_true rfl⟩) hK hP hD hS hA rfl rfl rfl rfl hl.1 rfl (Nat.le_of_ble_eq_true rfl) dX0_tighten_111 ⟨Nat.zero_le _, Nat.zero_le _⟩ (fun r111 u111 H locs q111 hP hD hS => ?_)
      try dsimp only at q111
      have hP : va_P D vwCl (WS cI ad lo3 hi3) H := hP
      have hD : va_D A (WS cI ad lo3 hi3) := hD
      refine c_if_eq (tgt := 121) hx hb dX0_tighten_114 (by decide) (fun c114 => ?_) (fun c114 => ?_)
      · skip
        refine c_iconst hx hb dX0_tighten_121 (by decide) (fun v121_3 i121_3 => ?_)
        exact c_rz (lo3, hi3) hx hb hr hlocks hK hP hD hS dX0_tighten_122 (by omega) ⟨hTg, (fun j hj => ⟨U1.2 j hj, U2.2 j hj⟩), (by dsimp only; rw [hOk]; omega)⟩
      · skip
        refine c_iconst hx hb dX0_tighten_117 (by decide) (fun v117 i117 => ?_)
        refine lv_goto (tgt := 122) hx hb dX0_tighten_118 (by decide) ?_
        exact c_rz (lo3, hi3) hx hb hr hlocks hK hP hD hS dX0_tighten_122 (by omega) ⟨hTg, (fun j hj => ⟨U1.2 j hj, U2.2 j hj⟩), (by dsimp only; rw [hOk]; omega)⟩
