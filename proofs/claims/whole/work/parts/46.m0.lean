set_option maxHeartbeats 4000000 in
set_option maxRecDepth 100000 in
theorem kX0_init (l : Launch) (D : va_G) (cI : ClassId) (h0 : Nat) : MC l yX0_init wsX0_init ({ frames := 1, cells := 2, slots := 372, locals := 20 } : Room) D [(cI, .int)] [.ref h0] [(h0, .inr (0, [.null, .null]))] (fun u : Nat × Nat => [(h0, .inr (0, [.ref u.1, .ref u.2])), (u.1, .inl (cI, 186, .inl (fun _ => 0))), (u.2, .inl (cI, 186, .inl (fun _ => 0)))]) (fun u : Nat × Nat => True) 2 372 := by
  refine c_entC (cc := cX0_init) (maxL := 1) (by decide) rfl rfl (Nat.le_of_ble_eq_true rfl) ?_
  intro p e s m below meth c A ls hx hb hr hlocks hts hown hml hK hP hD hA hl hin
  have hS : va_S A s.heap s.heap [] := va_S.rf
  have hl : lv_has ls 1 [(0, .ref h0)] := hl
  have hP : va_P D vwCl [(h0, .inr (0, [.null, .null]))] s.heap := hP
  have inX0 : ∀ w ∈ wsX00, w ∈ wsX0_init := by decide +kernel
  have arr := hts (.arrayClass .int) (by decide +kernel)
  refine lv_aload_n hx hb dX0_init_0 rfl (lv_at hl 0 rfl) ?_
  refine W.objInit hx hb hown (hts (.methodLink RX0 3 objectInit) (by decide +kernel)) (hts (.instanceMethod objectInit) (by decide +kernel)) (hts (.code objectInit ⟨#[0xb1]⟩ 1 none) (by decide +kernel)) rfl (by rw [hml]; exact hl.1) rfl dX0_init_1 (Nat.le_of_ble_eq_true rfl) (Nat.le_of_ble_eq_true rfl) ?_
  refine W.eq (g2 := F0 m 4 ls []) rfl ?_
  refine lv_aload_n hx hb dX0_init_4 rfl (lv_at hl 0 rfl) ?_
  refine lv_sipush (v := 186) hx hb dX0_init_5 (by decide) ?_
  refine va_newa (atype := .int) (ty := .int) (a0 := (186, .inl (fun _ => 0))) (N' := 186) hx hb arr rfl hK hP hD hS hA (fun _ => rfl) (by decide) (by decide) (by decide) (Nat.le_of_ble_eq_true rfl) (Nat.le_of_ble_eq_true rfl) dX0_init_8 (fun q1 cA H hK hP hD hS => ?_)
  have ecA := cI_eq hK
  subst ecA
  have hK := hK.sub (tys' := [(cI, .int)]) [0] rfl
  have hP : va_P D vwCl [(h0, .inr (0, [.null, .null])), (q1, .inl (cI, 186, .inl (fun _ => 0)))] H := hP
  have hD : va_D A [(h0, .inr (0, [.null, .null])), (q1, .inl (cI, 186, .inl (fun _ => 0)))] := hD
  refine W.widen (k := 1) (n := 186) (Nat.le_of_ble_eq_true rfl) (Nat.le_of_ble_eq_true rfl) ?_
  refine va_putF (D := D) (ci := 0) (v := .ref q1) (ty := (.array .int)) (C := RX0) (T := TX0) (N := 2) hx hb hts inX0 tyX0 tyX0_ok nmX0 hown hK hP hD hS 0 rfl rfl 0 (by decide) (hts (.fieldLink RX0 9 "DoorBench$Spans" "lows" "[I") (by decide +kernel)) (fun _ h9 => h9) rfl hin rfl (by decide +kernel) rfl rfl (Nat.le_of_ble_eq_true rfl) dX0_init_10 (fun H locs hP hD hS => ?_)
  have hP : va_P D vwCl [(h0, .inr (0, [.ref q1, .null])), (q1, .inl (cI, 186, .inl (fun _ => 0)))] H := hP
  have hD : va_D A [(h0, .inr (0, [.ref q1, .null])), (q1, .inl (cI, 186, .inl (fun _ => 0)))] := hD
  refine lv_aload_n hx hb dX0_init_13 rfl (lv_at hl 0 rfl) ?_
  refine lv_sipush (v := 186) hx hb dX0_init_14 (by decide) ?_
  refine va_newa (atype := .int) (ty := .int) (a0 := (186, .inl (fun _ => 0))) (N' := 186) hx hb arr rfl hK hP hD hS hA (fun _ => rfl) (by decide) (by decide) (by decide) (Nat.le_of_ble_eq_true rfl) (Nat.le_of_ble_eq_true rfl) dX0_init_17 (fun q2 cA H hK hP hD hS => ?_)
  have ecA := cI_eq hK
  subst ecA
  have hK := hK.sub (tys' := [(cI, .int)]) [0] rfl
  have hP : va_P D vwCl [(h0, .inr (0, [.ref q1, .null])), (q1, .inl (cI, 186, .inl (fun _ => 0))), (q2, .inl (cI, 186, .inl (fun _ => 0)))] H := hP
  have hD : va_D A [(h0, .inr (0, [.ref q1, .null])), (q1, .inl (cI, 186, .inl (fun _ => 0))), (q2, .inl (cI, 186, .inl (fun _ => 0)))] := hD
  refine W.widen (k := 2) (n := 372) (Nat.le_of_ble_eq_true rfl) (Nat.le_of_ble_eq_true rfl) ?_
  refine va_putF (D := D) (ci := 0) (v := .ref q2) (ty := (.array .int)) (C := RX0) (T := TX0) (N := 2) hx hb hts inX0 tyX0 tyX0_ok nmX0 hown hK hP hD hS 0 rfl rfl 1 (by decide) (hts (.fieldLink RX0 15 "DoorBench$Spans" "highs" "[I") (by decide +kernel)) (fun _ h9 => h9) rfl hin rfl (by decide +kernel) rfl rfl (Nat.le_of_ble_eq_true rfl) dX0_init_19 (fun H locs hP hD hS => ?_)
  have hP : va_P D vwCl [(h0, .inr (0, [.ref q1, .ref q2])), (q1, .inl (cI, 186, .inl (fun _ => 0))), (q2, .inl (cI, 186, .inl (fun _ => 0)))] H := hP
  have hD : va_D A [(h0, .inr (0, [.ref q1, .ref q2])), (q1, .inl (cI, 186, .inl (fun _ => 0))), (q2, .inl (cI, 186, .inl (fun _ => 0)))] := hD
  exact c_rc (q1, q2) hx hb hr hlocks hK hP hD hS dX0_init_22 (Nat.le_of_ble_eq_true rfl) (Nat.le_of_ble_eq_true rfl) trivial
