set_option maxHeartbeats 4000000 in
set_option maxRecDepth 100000 in
theorem law_8 {p : Program} {l : Launch} {e : Env} {s : State} {m : MethodId} {below : List Frame} {meth : Method} {c : Code} {b L : Nat} {xs : Nat → Int32} {D : va_G} {cI cJ : ClassId} {sa : Nat → Nat} {ad am : Nat → Nat} {ao j : Nat} (cx : Lcx p l s m meth c b L xs D cI cJ sa) (hL : L ≤ 2560) (hj : 5 * j + 5 ≤ L) (K : K809 p l e s m below meth c b D cI cJ ad am ao j)
    (f : Nat → Nat → Int32) (lo hi : Nat → Int32) (T Dv C : Int32) (og : Nat → Int64) (ah bk bo mv : Nat → Int32) (th mo : Int32) (Tn Dn Cn : Nat) (H : Heap) (locs : List Loc) (ls : Array Slot) (x4 : Int32) (hst : Lst s D cI cJ ad am ao f lo hi T Dv C og ah bk bo mv th mo Tn Dn Cn H locs) (hx4 : x4.toInt = 5 * (j : Int)) (hl : lv_has ls 7 (Llv b ad am ao x4)) :
    W p l e room_1 s m #[Value.ref b] below meth c H locs (34 + j) (3172 + 6 * j) (lw_Z below #[Value.ref b] s) (F0 m 448 ls []) := by
  obtain ⟨⟨hx, hb, hr, hml, hown, hts0, hX, hbl, hlocks, hgv⟩, hnst, hts, hK, hth, hnc⟩ := id cx
  obtain ⟨hI, hT, hDv, hC, hP, hD, hS⟩ := hst
  have hown : s.vm.findClass RL = some m.cls := hown
  have hA : ∀ q : Nat, s.heap.size ≤ q → aH s q := fun _ h => h
  have hbA : ¬ aH s b := Nat.not_le.mpr hbl
  have hK0 : va_K D vwCl [(cI, .int)] s := hK.sub [0] rfl
  have hl : lv_has ls 7 [(0, .ref b), (1, .ref (ad 0)), (2, .ref (am 0)), (3, .ref ao), (4, .int x4)] := hl
  refine lv_aload_n hx hb dL_law_448 rfl (lv_at hl 1 rfl) ?_
  refine lv_aload_n hx hb dL_law_449 rfl (lv_at hl 0 rfl) ?_
  refine lv_iload hx hb dL_law_450 (lv_at hl 4 rfl) ?_
  refine c_iconst hx hb dL_law_452 (by decide) (fun v452 i452 => ?_)
  refine c_iadd hx hb dL_law_453 (by omega) (fun v453 i453 => ?_)
  refine c_sld hx hb hX hbl hbA hS (5 * j + 1) (by omega) (by omega) dL_law_454 ?_
  refine lv_aload_n hx hb dL_law_455 rfl (lv_at hl 0 rfl) ?_
  refine lv_iload hx hb dL_law_456 (lv_at hl 4 rfl) ?_
  refine c_iconst hx hb dL_law_458 (by decide) (fun v458 i458 => ?_)
  refine c_iadd hx hb dL_law_459 (by omega) (fun v459 i459 => ?_)
  refine c_sld hx hb hX hbl hbA hS (5 * j + 2) (by omega) (by omega) dL_law_460 ?_
  refine lv_aload_n hx hb dL_law_461 rfl (lv_at hl 0 rfl) ?_
  refine lv_iload hx hb dL_law_462 (lv_at hl 4 rfl) ?_
  refine c_iconst hx hb dL_law_464 (by decide) (fun v464 i464 => ?_)
  refine c_iadd hx hb dL_law_465 (by omega) (fun v465 i465 => ?_)
  refine c_sld hx hb hX hbl hbA hS (5 * j + 3) (by omega) (by omega) dL_law_466 ?_
  refine c_if_eq (tgt := 474) hx hb dL_law_467 (by decide) (fun c467 => ?_) (fun c467 => ?_)
  · skip
    refine c_iconst hx hb dL_law_474 (by decide) (fun v474 i474 => ?_)
    refine lv_aload_n hx hb dL_law_475 rfl (lv_at hl 3 rfl) ?_
    refine c_csl (As := [.ref (ad 0), .int (xs (5 * j + 1)), .int (xs (5 * j + 2)), .int v474, .ref ao]) (wr := (WM cI am f ah bk bo mv T Dv C th mo)) (wF := (fun uZ => ((WO cI cJ ad ao f uZ.1 uZ.2.1 T Dv C uZ.2.2) ++ (WM cI am f ah bk bo mv T Dv C th mo)))) (kL_inside l hnst D cI cJ ad sa ao f lo hi T Dv C og Tn Dn Cn (xs (5 * j + 1)) (xs (5 * j + 2)) v474 hT hDv hC hI) ⟨hx, hb, hml, hown, hts⟩ (vx_cwSW 5 hts gL_law_L_inside rfl rfl rfl (by decide +kernel) ⟨Nat.le_of_ble_eq_true rfl, Nat.le_of_ble_eq_true rfl⟩) hK hth hnc hP hD hS hA [0, 1, 2, 3, 4, 5, 6, 7, 8, 9, 10, 11, 12, 13, 14, 15, 16] [17, 18, 19, 20, 21, 22, 23, 24, 25, 26, 27, 28, 29, 30, 31, 32, 33] [17, 18, 19, 20, 21, 22, 23, 24, 25, 26, 27, 28, 29, 30, 31, 32, 33, 0, 1, 2, 3, 4, 5, 6, 7, 8, 9, 10, 11, 12, 13, 14, 15, 16] rfl (by decide) rfl (by decide) (by decide) (by decide) (fun _ => rfl) rfl hl.1 rfl (Nat.le_of_ble_eq_true rfl) dL_law_476 ⟨by show _ ≤ 1064; omega, by show _ ≤ 11400; omega⟩ (fun r476 u476 H locs q476 hP hD hS => ?_)
    try dsimp only at q476
    have hP : va_P D vwCl ((WO cI cJ ad ao f u476.1 u476.2.1 T Dv C u476.2.2) ++ (WM cI am f ah bk bo mv T Dv C th mo)) H := hP
    have hD : va_D (aH s) ((WO cI cJ ad ao f u476.1 u476.2.1 T Dv C u476.2.2) ++ (WM cI am f ah bk bo mv T Dv C th mo)) := hD
    refine lv_istore (lv' := [(5, .int r476), (0, .ref b), (1, .ref (ad 0)), (2, .ref (am 0)), (3, .ref ao), (4, .int x4)]) hx hb dL_law_479 hl (by decide) rfl (fun ls hl => ?_)
    refine lv_aload_n hx hb dL_law_481 rfl (lv_at hl 3 rfl) ?_
    refine lv_aload_n hx hb dL_law_482 rfl (lv_at hl 1 rfl) ?_
    refine lv_iload hx hb dL_law_483 (lv_at hl 5 rfl) ?_
    refine c_iconst hx hb dL_law_485 (by decide) (fun v485 i485 => ?_)
    refine c_iadd hx hb dL_law_486 (by omega) (fun v486 i486 => ?_)
    refine c_sld hx hb hX hbl hbA hS (5 * j + 1) (by omega) (by omega) dL_law_487 ?_
    refine lv_aload_n hx hb dL_law_488 rfl (lv_at hl 1 rfl) ?_
    refine lv_iload hx hb dL_law_489 (lv_at hl 5 rfl) ?_
    refine c_iconst hx hb dL_law_491 (by decide) (fun v491 i491 => ?_)
    refine c_iadd hx hb dL_law_492 (by omega) (fun v492 i492 => ?_)
    refine c_sld hx hb hX hbl hbA hS (5 * j + 2) (by omega) (by omega) dL_law_493 ?_
    refine lv_aload_n hx hb dL_law_494 rfl (lv_at hl 1 rfl) ?_
    refine lv_iload hx hb dL_law_495 (lv_at hl 5 rfl) ?_
    refine c_iconst hx hb dL_law_497 (by decide) (fun v497 i497 => ?_)
    refine c_iadd hx hb dL_law_498 (by omega) (fun v498 i498 => ?_)
    refine c_sld hx hb hX hbl hbA hS (5 * j + 3) (by omega) (by omega) dL_law_499 ?_
    refine c_if_eq (tgt := 507) hx hb dL_law_500 (by decide) (fun c500 => ?_) (fun c500 => absurd c500 (by omega))
    refine c_iconst hx hb dL_law_507 (by decide) (fun v507 i507 => ?_)
    refine c_cvi (As := [.int (xs (5 * j + 1)), .int (xs (5 * j + 2)), .int v507]) (ci := 2) (q0 := 0) (wr := (WO cI cJ ad ao f u476.1 u476.2.1 T Dv C u476.2.2)) (wF := (fun uZ => ((WO cI cJ ad ao f u476.1 u476.2.1 T Dv C u476.2.2) ++ (WM cI am f uZ.1 uZ.2.1 uZ.2.2.1 uZ.2.2.2.1 T Dv C uZ.2.2.2.2.1 uZ.2.2.2.2.2)))) (kX2_inside l D cI am f ah bk bo mv T Dv C th mo Tn Dn Cn (xs (5 * j + 1)) (xs (5 * j + 2)) v507 hT hDv hC hI) ⟨hx, hb, hml, hown, hts⟩ (cwV 3 hts gL_law_X2_inside rfl rfl rfl (by decide +kernel) ⟨Nat.le_of_ble_eq_true rfl, Nat.le_of_ble_eq_true rfl⟩) hK0 hP hD hS hA [17, 18, 19, 20, 21, 22, 23, 24, 25, 26, 27, 28, 29, 30, 31, 32, 33] [0, 1, 2, 3, 4, 5, 6, 7, 8, 9, 10, 11, 12, 13, 14, 15, 16] [0, 1, 2, 3, 4, 5, 6, 7, 8, 9, 10, 11, 12, 13, 14, 15, 16, 17, 18, 19, 20, 21, 22, 23, 24, 25, 26, 27, 28, 29, 30, 31, 32, 33] rfl (by decide) rfl (by decide) (by decide) (by decide) (fun _ => rfl) rfl rfl rfl rfl hl.1 rfl (Nat.le_of_ble_eq_true rfl) dL_law_508 ⟨by show _ ≤ 1064; omega, by show _ ≤ 11400; omega⟩ (fun r508 u508 H locs q508 hP hD hS => ?_)
    try dsimp only at q508
    have hP : va_P D vwCl ((WO cI cJ ad ao f u476.1 u476.2.1 T Dv C u476.2.2) ++ (WM cI am f u508.1 u508.2.1 u508.2.2.1 u508.2.2.2.1 T Dv C u508.2.2.2.2.1 u508.2.2.2.2.2)) H := hP
    have hD : va_D (aH s) ((WO cI cJ ad ao f u476.1 u476.2.1 T Dv C u476.2.2) ++ (WM cI am f u508.1 u508.2.1 u508.2.2.1 u508.2.2.2.1 T Dv C u508.2.2.2.2.1 u508.2.2.2.2.2)) := hD
    refine lv_istore (lv' := [(6, .int r508), (5, .int r476), (0, .ref b), (1, .ref (ad 0)), (2, .ref (am 0)), (3, .ref ao), (4, .int x4)]) hx hb dL_law_511 hl (by decide) rfl (fun ls hl => ?_)
    refine lv_aload_n hx hb dL_law_513 rfl (lv_at hl 4 rfl) ?_
    refine c_cvi (As := []) (ci := 2) (q0 := 0) (wr := (WO cI cJ ad ao f u476.1 u476.2.1 T Dv C u476.2.2)) (wF := (fun uZ => ((WO cI cJ ad ao f u476.1 u476.2.1 T Dv C u476.2.2) ++ (WM cI am f u508.1 u508.2.1 u508.2.2.1 u508.2.2.2.1 T Dv C u508.2.2.2.2.1 u508.2.2.2.2.2)))) (kX2_thrown l D cI am f u508.1 u508.2.1 u508.2.2.1 u508.2.2.2.1 T Dv C u508.2.2.2.2.1 u508.2.2.2.2.2 ) ⟨hx, hb, hml, hown, hts⟩ (cwV 0 hts gL_law_X2_thrown rfl rfl rfl (by decide +kernel) ⟨Nat.le_of_ble_eq_true rfl, Nat.le_of_ble_eq_true rfl⟩) hK0 hP hD hS hA [17, 18, 19, 20, 21, 22, 23, 24, 25, 26, 27, 28, 29, 30, 31, 32, 33] [0, 1, 2, 3, 4, 5, 6, 7, 8, 9, 10, 11, 12, 13, 14, 15, 16] [0, 1, 2, 3, 4, 5, 6, 7, 8, 9, 10, 11, 12, 13, 14, 15, 16, 17, 18, 19, 20, 21, 22, 23, 24, 25, 26, 27, 28, 29, 30, 31, 32, 33] rfl (by decide) rfl (by decide) (by decide) (by decide) (fun _ => rfl) rfl rfl rfl rfl hl.1 rfl (Nat.le_of_ble_eq_true rfl) dL_law_514 ⟨by show _ ≤ 1064; omega, by show _ ≤ 11400; omega⟩ (fun r514 u514 H locs q514 hP hD hS => ?_)
    try dsimp only at q514
    have hP : va_P D vwCl ((WO cI cJ ad ao f u476.1 u476.2.1 T Dv C u476.2.2) ++ (WM cI am f u508.1 u508.2.1 u508.2.2.1 u508.2.2.2.1 T Dv C u508.2.2.2.2.1 u508.2.2.2.2.2)) H := hP
    have hD : va_D (aH s) ((WO cI cJ ad ao f u476.1 u476.2.1 T Dv C u476.2.2) ++ (WM cI am f u508.1 u508.2.1 u508.2.2.1 u508.2.2.2.1 T Dv C u508.2.2.2.2.1 u508.2.2.2.2.2)) := hD
    refine lv_iload hx hb dL_law_517 (lv_at hl 1 rfl) ?_
    obtain ⟨vv, qv, qo⟩ := q476
    rw [i474] at qv
    rw [i507] at q508
    have hq := IN_uniq qv q508
    have eth : r514.toInt = r476.toInt := by rw [q514]; exact hq.1.symm
    refine c_icmp_eq (tgt := 524) hx hb dL_law_519 (by decide) (fun _ => ?_) (fun cn => absurd eth cn)
    refine lv_iload hx hb dL_law_524 (lv_at hl 1 rfl) ?_
    refine c_if_ne (tgt := 541) hx hb dL_law_526 (by decide) (fun c526 => ?_) (fun c526 => ?_)
    · skip
      refine lv_goto (tgt := 809) hx hb dL_law_541 (by decide) ?_
      refine W.widen (k := 34 + (j + 1)) (n := 3172 + 6 * (j + 1)) (by omega) (by omega) ?_
      exact K f u476.1 u476.2.1 T Dv C u476.2.2 u508.1 u508.2.1 u508.2.2.1 u508.2.2.2.1 u508.2.2.2.2.1 u508.2.2.2.2.2 (Tn) (Dn) (Cn) _ _ _ _ ⟨hI, hT, hDv, hC, hP, hD, hS⟩ hx4 (lv_sub hl [2, 3, 4, 5, 6] rfl)
    · skip
      refine lv_aload_n hx hb dL_law_529 rfl (lv_at hl 5 rfl) ?_
      refine lv_iconst (v := 0) hx hb dL_law_530 (by decide) ?_
      refine va_lald hx hb hK hP 16 1 rfl rfl (t_in (j := 0) rfl (by decide)) dL_law_531 ?_
      refine lv_iload hx hb dL_law_532 (lv_at hl 0 rfl) ?_
      refine lv_i2l (v := r508.toInt64) hx hb dL_law_534 rfl ?_
      refine W.lcmp hx hb dL_law_535 ?_
      have hz : lg_cmp (u476.2.2 (0 : Int32).toNatClampNeg) r508.toInt64 = 0 := by
        have e1 : u476.2.2 0 = vv.toInt64 := qo c526
        have e2 : vv = r508 := t_inj (hq.2 c526)
        show lg_cmp (u476.2.2 0) _ = 0
        rw [e1, e2]; unfold lg_cmp; simp
      refine c_if_eq (tgt := 541) hx hb dL_law_536 (by decide) (fun _ => ?_) (fun cn => absurd (by rw [hz]; rfl) cn)
      refine lv_goto (tgt := 809) hx hb dL_law_541 (by decide) ?_
      refine W.widen (k := 34 + (j + 1)) (n := 3172 + 6 * (j + 1)) (by omega) (by omega) ?_
      exact K f u476.1 u476.2.1 T Dv C u476.2.2 u508.1 u508.2.1 u508.2.2.1 u508.2.2.2.1 u508.2.2.2.2.1 u508.2.2.2.2.2 (Tn) (Dn) (Cn) _ _ _ _ ⟨hI, hT, hDv, hC, hP, hD, hS⟩ hx4 (lv_sub hl [2, 3, 4, 5, 6] rfl)
  · skip
    refine c_iconst hx hb dL_law_470 (by decide) (fun v470 i470 => ?_)
    refine lv_goto (tgt := 475) hx hb dL_law_471 (by decide) ?_
    refine lv_aload_n hx hb dL_law_475 rfl (lv_at hl 3 rfl) ?_
    refine c_csl (As := [.ref (ad 0), .int (xs (5 * j + 1)), .int (xs (5 * j + 2)), .int v470, .ref ao]) (wr := (WM cI am f ah bk bo mv T Dv C th mo)) (wF := (fun uZ => ((WO cI cJ ad ao f uZ.1 uZ.2.1 T Dv C uZ.2.2) ++ (WM cI am f ah bk bo mv T Dv C th mo)))) (kL_inside l hnst D cI cJ ad sa ao f lo hi T Dv C og Tn Dn Cn (xs (5 * j + 1)) (xs (5 * j + 2)) v470 hT hDv hC hI) ⟨hx, hb, hml, hown, hts⟩ (vx_cwSW 5 hts gL_law_L_inside rfl rfl rfl (by decide +kernel) ⟨Nat.le_of_ble_eq_true rfl, Nat.le_of_ble_eq_true rfl⟩) hK hth hnc hP hD hS hA [0, 1, 2, 3, 4, 5, 6, 7, 8, 9, 10, 11, 12, 13, 14, 15, 16] [17, 18, 19, 20, 21, 22, 23, 24, 25, 26, 27, 28, 29, 30, 31, 32, 33] [17, 18, 19, 20, 21, 22, 23, 24, 25, 26, 27, 28, 29, 30, 31, 32, 33, 0, 1, 2, 3, 4, 5, 6, 7, 8, 9, 10, 11, 12, 13, 14, 15, 16] rfl (by decide) rfl (by decide) (by decide) (by decide) (fun _ => rfl) rfl hl.1 rfl (Nat.le_of_ble_eq_true rfl) dL_law_476 ⟨by show _ ≤ 1064; omega, by show _ ≤ 11400; omega⟩ (fun r476 u476 H locs q476 hP hD hS => ?_)
    try dsimp only at q476
    have hP : va_P D vwCl ((WO cI cJ ad ao f u476.1 u476.2.1 T Dv C u476.2.2) ++ (WM cI am f ah bk bo mv T Dv C th mo)) H := hP
    have hD : va_D (aH s) ((WO cI cJ ad ao f u476.1 u476.2.1 T Dv C u476.2.2) ++ (WM cI am f ah bk bo mv T Dv C th mo)) := hD
    refine lv_istore (lv' := [(5, .int r476), (0, .ref b), (1, .ref (ad 0)), (2, .ref (am 0)), (3, .ref ao), (4, .int x4)]) hx hb dL_law_479 hl (by decide) rfl (fun ls hl => ?_)
    refine lv_aload_n hx hb dL_law_481 rfl (lv_at hl 3 rfl) ?_
    refine lv_aload_n hx hb dL_law_482 rfl (lv_at hl 1 rfl) ?_
    refine lv_iload hx hb dL_law_483 (lv_at hl 5 rfl) ?_
    refine c_iconst hx hb dL_law_485 (by decide) (fun v485 i485 => ?_)
    refine c_iadd hx hb dL_law_486 (by omega) (fun v486 i486 => ?_)
    refine c_sld hx hb hX hbl hbA hS (5 * j + 1) (by omega) (by omega) dL_law_487 ?_
    refine lv_aload_n hx hb dL_law_488 rfl (lv_at hl 1 rfl) ?_
    refine lv_iload hx hb dL_law_489 (lv_at hl 5 rfl) ?_
    refine c_iconst hx hb dL_law_491 (by decide) (fun v491 i491 => ?_)
    refine c_iadd hx hb dL_law_492 (by omega) (fun v492 i492 => ?_)
    refine c_sld hx hb hX hbl hbA hS (5 * j + 2) (by omega) (by omega) dL_law_493 ?_
    refine lv_aload_n hx hb dL_law_494 rfl (lv_at hl 1 rfl) ?_
    refine lv_iload hx hb dL_law_495 (lv_at hl 5 rfl) ?_
    refine c_iconst hx hb dL_law_497 (by decide) (fun v497 i497 => ?_)
    refine c_iadd hx hb dL_law_498 (by omega) (fun v498 i498 => ?_)
    refine c_sld hx hb hX hbl hbA hS (5 * j + 3) (by omega) (by omega) dL_law_499 ?_
    refine c_if_eq (tgt := 507) hx hb dL_law_500 (by decide) (fun c500 => absurd c500 (by omega)) (fun c500 => ?_)
    refine c_iconst hx hb dL_law_503 (by decide) (fun v503 i503 => ?_)
    refine lv_goto (tgt := 508) hx hb dL_law_504 (by decide) ?_
    refine c_cvi (As := [.int (xs (5 * j + 1)), .int (xs (5 * j + 2)), .int v503]) (ci := 2) (q0 := 0) (wr := (WO cI cJ ad ao f u476.1 u476.2.1 T Dv C u476.2.2)) (wF := (fun uZ => ((WO cI cJ ad ao f u476.1 u476.2.1 T Dv C u476.2.2) ++ (WM cI am f uZ.1 uZ.2.1 uZ.2.2.1 uZ.2.2.2.1 T Dv C uZ.2.2.2.2.1 uZ.2.2.2.2.2)))) (kX2_inside l D cI am f ah bk bo mv T Dv C th mo Tn Dn Cn (xs (5 * j + 1)) (xs (5 * j + 2)) v503 hT hDv hC hI) ⟨hx, hb, hml, hown, hts⟩ (cwV 3 hts gL_law_X2_inside rfl rfl rfl (by decide +kernel) ⟨Nat.le_of_ble_eq_true rfl, Nat.le_of_ble_eq_true rfl⟩) hK0 hP hD hS hA [17, 18, 19, 20, 21, 22, 23, 24, 25, 26, 27, 28, 29, 30, 31, 32, 33] [0, 1, 2, 3, 4, 5, 6, 7, 8, 9, 10, 11, 12, 13, 14, 15, 16] [0, 1, 2, 3, 4, 5, 6, 7, 8, 9, 10, 11, 12, 13, 14, 15, 16, 17, 18, 19, 20, 21, 22, 23, 24, 25, 26, 27, 28, 29, 30, 31, 32, 33] rfl (by decide) rfl (by decide) (by decide) (by decide) (fun _ => rfl) rfl rfl rfl rfl hl.1 rfl (Nat.le_of_ble_eq_true rfl) dL_law_508 ⟨by show _ ≤ 1064; omega, by show _ ≤ 11400; omega⟩ (fun r508 u508 H locs q508 hP hD hS => ?_)
    try dsimp only at q508
    have hP : va_P D vwCl ((WO cI cJ ad ao f u476.1 u476.2.1 T Dv C u476.2.2) ++ (WM cI am f u508.1 u508.2.1 u508.2.2.1 u508.2.2.2.1 T Dv C u508.2.2.2.2.1 u508.2.2.2.2.2)) H := hP
    have hD : va_D (aH s) ((WO cI cJ ad ao f u476.1 u476.2.1 T Dv C u476.2.2) ++ (WM cI am f u508.1 u508.2.1 u508.2.2.1 u508.2.2.2.1 T Dv C u508.2.2.2.2.1 u508.2.2.2.2.2)) := hD
    refine lv_istore (lv' := [(6, .int r508), (5, .int r476), (0, .ref b), (1, .ref (ad 0)), (2, .ref (am 0)), (3, .ref ao), (4, .int x4)]) hx hb dL_law_511 hl (by decide) rfl (fun ls hl => ?_)
    refine lv_aload_n hx hb dL_law_513 rfl (lv_at hl 4 rfl) ?_
    refine c_cvi (As := []) (ci := 2) (q0 := 0) (wr := (WO cI cJ ad ao f u476.1 u476.2.1 T Dv C u476.2.2)) (wF := (fun uZ => ((WO cI cJ ad ao f u476.1 u476.2.1 T Dv C u476.2.2) ++ (WM cI am f u508.1 u508.2.1 u508.2.2.1 u508.2.2.2.1 T Dv C u508.2.2.2.2.1 u508.2.2.2.2.2)))) (kX2_thrown l D cI am f u508.1 u508.2.1 u508.2.2.1 u508.2.2.2.1 T Dv C u508.2.2.2.2.1 u508.2.2.2.2.2 ) ⟨hx, hb, hml, hown, hts⟩ (cwV 0 hts gL_law_X2_thrown rfl rfl rfl (by decide +kernel) ⟨Nat.le_of_ble_eq_true rfl, Nat.le_of_ble_eq_true rfl⟩) hK0 hP hD hS hA [17, 18, 19, 20, 21, 22, 23, 24, 25, 26, 27, 28, 29, 30, 31, 32, 33] [0, 1, 2, 3, 4, 5, 6, 7, 8, 9, 10, 11, 12, 13, 14, 15, 16] [0, 1, 2, 3, 4, 5, 6, 7, 8, 9, 10, 11, 12, 13, 14, 15, 16, 17, 18, 19, 20, 21, 22, 23, 24, 25, 26, 27, 28, 29, 30, 31, 32, 33] rfl (by decide) rfl (by decide) (by decide) (by decide) (fun _ => rfl) rfl rfl rfl rfl hl.1 rfl (Nat.le_of_ble_eq_true rfl) dL_law_514 ⟨by show _ ≤ 1064; omega, by show _ ≤ 11400; omega⟩ (fun r514 u514 H locs q514 hP hD hS => ?_)
    try dsimp only at q514
    have hP : va_P D vwCl ((WO cI cJ ad ao f u476.1 u476.2.1 T Dv C u476.2.2) ++ (WM cI am f u508.1 u508.2.1 u508.2.2.1 u508.2.2.2.1 T Dv C u508.2.2.2.2.1 u508.2.2.2.2.2)) H := hP
    have hD : va_D (aH s) ((WO cI cJ ad ao f u476.1 u476.2.1 T Dv C u476.2.2) ++ (WM cI am f u508.1 u508.2.1 u508.2.2.1 u508.2.2.2.1 T Dv C u508.2.2.2.2.1 u508.2.2.2.2.2)) := hD
    refine lv_iload hx hb dL_law_517 (lv_at hl 1 rfl) ?_
    obtain ⟨vv, qv, qo⟩ := q476
    rw [i470] at qv
    rw [i503] at q508
    have hq := IN_uniq qv q508
    have eth : r514.toInt = r476.toInt := by rw [q514]; exact hq.1.symm
    refine c_icmp_eq (tgt := 524) hx hb dL_law_519 (by decide) (fun _ => ?_) (fun cn => absurd eth cn)
    refine lv_iload hx hb dL_law_524 (lv_at hl 1 rfl) ?_
    refine c_if_ne (tgt := 541) hx hb dL_law_526 (by decide) (fun c526 => ?_) (fun c526 => ?_)
    · skip
      refine lv_goto (tgt := 809) hx hb dL_law_541 (by decide) ?_
      refine W.widen (k := 34 + (j + 1)) (n := 3172 + 6 * (j + 1)) (by omega) (by omega) ?_
      exact K f u476.1 u476.2.1 T Dv C u476.2.2 u508.1 u508.2.1 u508.2.2.1 u508.2.2.2.1 u508.2.2.2.2.1 u508.2.2.2.2.2 (Tn) (Dn) (Cn) _ _ _ _ ⟨hI, hT, hDv, hC, hP, hD, hS⟩ hx4 (lv_sub hl [2, 3, 4, 5, 6] rfl)
    · skip
      refine lv_aload_n hx hb dL_law_529 rfl (lv_at hl 5 rfl) ?_
      refine lv_iconst (v := 0) hx hb dL_law_530 (by decide) ?_
      refine va_lald hx hb hK hP 16 1 rfl rfl (t_in (j := 0) rfl (by decide)) dL_law_531 ?_
      refine lv_iload hx hb dL_law_532 (lv_at hl 0 rfl) ?_
      refine lv_i2l (v := r508.toInt64) hx hb dL_law_534 rfl ?_
      refine W.lcmp hx hb dL_law_535 ?_
      have hz : lg_cmp (u476.2.2 (0 : Int32).toNatClampNeg) r508.toInt64 = 0 := by
        have e1 : u476.2.2 0 = vv.toInt64 := qo c526
        have e2 : vv = r508 := t_inj (hq.2 c526)
        show lg_cmp (u476.2.2 0) _ = 0
        rw [e1, e2]; unfold lg_cmp; simp
      refine c_if_eq (tgt := 541) hx hb dL_law_536 (by decide) (fun _ => ?_) (fun cn => absurd (by rw [hz]; rfl) cn)
      refine lv_goto (tgt := 809) hx hb dL_law_541 (by decide) ?_
      refine W.widen (k := 34 + (j + 1)) (n := 3172 + 6 * (j + 1)) (by omega) (by omega) ?_
      exact K f u476.1 u476.2.1 T Dv C u476.2.2 u508.1 u508.2.1 u508.2.2.1 u508.2.2.2.1 u508.2.2.2.2.1 u508.2.2.2.2.2 (Tn) (Dn) (Cn) _ _ _ _ ⟨hI, hT, hDv, hC, hP, hD, hS⟩ hx4 (lv_sub hl [2, 3, 4, 5, 6] rfl)
