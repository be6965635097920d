set_option maxHeartbeats 4000000 in
set_option maxRecDepth 100000 in
theorem law_5 {p : Program} {l : Launch} {e : Env} {s : State} {m : MethodId} {below : List Frame} {meth : Method} {c : Code} {b L : Nat} {xs : Nat → Int32} {D : va_G} {cI cJ : ClassId} {sa : Nat → Nat} {ad am : Nat → Nat} {ao j : Nat} (cx : Lcx p l s m meth c b L xs D cI cJ sa) (hL : L ≤ 2560) (hj : 5 * j + 5 ≤ L) (K : K809 p l e s m below meth c b D cI cJ ad am ao j)
    (f : Nat → Nat → Int32) (lo hi : Nat → Int32) (T Dv C : Int32) (og : Nat → Int64) (ah bk bo mv : Nat → Int32) (th mo : Int32) (Tn Dn Cn : Nat) (H : Heap) (locs : List Loc) (ls : Array Slot) (x4 : Int32) (hst : Lst s D cI cJ ad am ao f lo hi T Dv C og ah bk bo mv th mo Tn Dn Cn H locs) (hx4 : x4.toInt = 5 * (j : Int)) (hl : lv_has ls 7 (Llv b ad am ao x4)) :
    W p l e room_1 s m #[Value.ref b] below meth c H locs (34 + j) (3172 + 6 * j) (lw_Z below #[Value.ref b] s) (F0 m 361 ls []) := by
  obtain ⟨⟨hx, hb, hr, hml, hown, hts0, hX, hbl, hlocks, hgv⟩, hnst, hts, hK, hth, hnc⟩ := id cx
  obtain ⟨hI, hT, hDv, hC, hP, hD, hS⟩ := hst
  have hown : s.vm.findClass RL = some m.cls := hown
  have hA : ∀ q : Nat, s.heap.size ≤ q → aH s q := fun _ h => h
  have hbA : ¬ aH s b := Nat.not_le.mpr hbl
  have hK0 : va_K D vwCl [(cI, .int)] s := hK.sub [0] rfl
  have hl : lv_has ls 7 [(0, .ref b), (1, .ref (ad 0)), (2, .ref (am 0)), (3, .ref ao), (4, .int x4)] := hl
  refine lv_aload_n hx hb dL_law_361 rfl (lv_at hl 1 rfl) ?_
  refine lv_aload_n hx hb dL_law_362 rfl (lv_at hl 0 rfl) ?_
  refine lv_iload hx hb dL_law_363 (lv_at hl 4 rfl) ?_
  refine c_iconst hx hb dL_law_365 (by decide) (fun v365 i365 => ?_)
  refine c_iadd hx hb dL_law_366 (by omega) (fun v366 i366 => ?_)
  refine c_sld hx hb hX hbl hbA hS (5 * j + 1) (by omega) (by omega) dL_law_367 ?_
  refine lv_aload_n hx hb dL_law_368 rfl (lv_at hl 0 rfl) ?_
  refine lv_iload hx hb dL_law_369 (lv_at hl 4 rfl) ?_
  refine c_iconst hx hb dL_law_371 (by decide) (fun v371 i371 => ?_)
  refine c_iadd hx hb dL_law_372 (by omega) (fun v372 i372 => ?_)
  refine c_sld hx hb hX hbl hbA hS (5 * j + 2) (by omega) (by omega) dL_law_373 ?_
  refine lv_aload_n hx hb dL_law_374 rfl (lv_at hl 0 rfl) ?_
  refine lv_iload hx hb dL_law_375 (lv_at hl 4 rfl) ?_
  refine c_iconst hx hb dL_law_377 (by decide) (fun v377 i377 => ?_)
  refine c_iadd hx hb dL_law_378 (by omega) (fun v378 i378 => ?_)
  refine c_sld hx hb hX hbl hbA hS (5 * j + 3) (by omega) (by omega) dL_law_379 ?_
  refine lv_aload_n hx hb dL_law_380 rfl (lv_at hl 0 rfl) ?_
  refine lv_iload hx hb dL_law_381 (lv_at hl 4 rfl) ?_
  refine c_iconst hx hb dL_law_383 (by decide) (fun v383 i383 => ?_)
  refine c_iadd hx hb dL_law_384 (by omega) (fun v384 i384 => ?_)
  refine c_sld hx hb hX hbl hbA hS (5 * j + 4) (by omega) (by omega) dL_law_385 ?_
  refine c_cvi (As := [.int (xs (5 * j + 1)), .int (xs (5 * j + 2)), .int (xs (5 * j + 3)), .int (xs (5 * j + 4))]) (ci := 1) (q0 := 0) (wr := ([(ao, .inl (cJ, 1, .inr (.inl og)))] ++ (WM cI am f ah bk bo mv T Dv C th mo))) (wF := (fun uZ => ((WO cI cJ ad ao uZ.1 lo hi T Dv uZ.2 og) ++ (WM cI am f ah bk bo mv T Dv C th mo)))) (kX1_check l D cI ad f lo hi T Dv C Tn Dn Cn (xs (5 * j + 1)) (xs (5 * j + 2)) (xs (5 * j + 3)) (xs (5 * j + 4)) hT hDv hC hI) ⟨hx, hb, hml, hown, hts⟩ (cwV 4 hts gL_law_X1_check rfl rfl rfl (by decide +kernel) ⟨Nat.le_of_ble_eq_true rfl, Nat.le_of_ble_eq_true rfl⟩) hK0 hP hD hS hA [0, 1, 2, 3, 4, 5, 6, 7, 8, 9, 10, 11, 12, 13, 14, 15] [16, 17, 18, 19, 20, 21, 22, 23, 24, 25, 26, 27, 28, 29, 30, 31, 32, 33] [18, 19, 20, 21, 22, 23, 24, 25, 26, 27, 28, 29, 30, 31, 32, 33, 0, 1, 2, 3, 4, 5, 6, 7, 8, 9, 10, 11, 12, 13, 14, 15, 16, 17] rfl (by decide) rfl (by decide) (by decide) (by decide) (fun _ => rfl) rfl rfl rfl rfl hl.1 rfl (Nat.le_of_ble_eq_true rfl) dL_law_386 ⟨by show _ ≤ 1064; omega, by show _ ≤ 11400; omega⟩ (fun r386 u386 H locs q386 hP hD hS => ?_)
  try dsimp only at q386
  have hP : va_P D vwCl ((WO cI cJ ad ao u386.1 lo hi T Dv u386.2 og) ++ (WM cI am f ah bk bo mv T Dv C th mo)) H := hP
  have hD : va_D (aH s) ((WO cI cJ ad ao u386.1 lo hi T Dv u386.2 og) ++ (WM cI am f ah bk bo mv T Dv C th mo)) := hD
  refine lv_aload_n hx hb dL_law_389 rfl (lv_at hl 2 rfl) ?_
  refine lv_aload_n hx hb dL_law_390 rfl (lv_at hl 0 rfl) ?_
  refine lv_iload hx hb dL_law_391 (lv_at hl 4 rfl) ?_
  refine c_iconst hx hb dL_law_393 (by decide) (fun v393 i393 => ?_)
  refine c_iadd hx hb dL_law_394 (by omega) (fun v394 i394 => ?_)
  refine c_sld hx hb hX hbl hbA hS (5 * j + 1) (by omega) (by omega) dL_law_395 ?_
  refine lv_aload_n hx hb dL_law_396 rfl (lv_at hl 0 rfl) ?_
  refine lv_iload hx hb dL_law_397 (lv_at hl 4 rfl) ?_
  refine c_iconst hx hb dL_law_399 (by decide) (fun v399 i399 => ?_)
  refine c_iadd hx hb dL_law_400 (by omega) (fun v400 i400 => ?_)
  refine c_sld hx hb hX hbl hbA hS (5 * j + 2) (by omega) (by omega) dL_law_401 ?_
  refine lv_aload_n hx hb dL_law_402 rfl (lv_at hl 0 rfl) ?_
  refine lv_iload hx hb dL_law_403 (lv_at hl 4 rfl) ?_
  refine c_iconst hx hb dL_law_405 (by decide) (fun v405 i405 => ?_)
  refine c_iadd hx hb dL_law_406 (by omega) (fun v406 i406 => ?_)
  refine c_sld hx hb hX hbl hbA hS (5 * j + 3) (by omega) (by omega) dL_law_407 ?_
  refine lv_aload_n hx hb dL_law_408 rfl (lv_at hl 0 rfl) ?_
  refine lv_iload hx hb dL_law_409 (lv_at hl 4 rfl) ?_
  refine c_iconst hx hb dL_law_411 (by decide) (fun v411 i411 => ?_)
  refine c_iadd hx hb dL_law_412 (by omega) (fun v412 i412 => ?_)
  refine c_sld hx hb hX hbl hbA hS (5 * j + 4) (by omega) (by omega) dL_law_413 ?_
  refine c_cvi (As := [.int (xs (5 * j + 1)), .int (xs (5 * j + 2)), .int (xs (5 * j + 3)), .int (xs (5 * j + 4))]) (ci := 2) (q0 := 0) (wr := (WO cI cJ ad ao u386.1 lo hi T Dv u386.2 og)) (wF := (fun uZ => ((WO cI cJ ad ao u386.1 lo hi T Dv u386.2 og) ++ (WM cI am uZ.1 ah bk bo mv T Dv uZ.2 0 mo)))) (kX2_check l D cI am f ah bk bo mv T Dv C th mo Tn Dn Cn (xs (5 * j + 1)) (xs (5 * j + 2)) (xs (5 * j + 3)) (xs (5 * j + 4)) hT hDv hC hI) ⟨hx, hb, hml, hown, hts⟩ (cwV 4 hts gL_law_X2_check rfl rfl rfl (by decide +kernel) ⟨Nat.le_of_ble_eq_true rfl, Nat.le_of_ble_eq_true rfl⟩) hK0 hP hD hS hA [17, 18, 19, 20, 21, 22, 23, 24, 25, 26, 27, 28, 29, 30, 31, 32, 33] [0, 1, 2, 3, 4, 5, 6, 7, 8, 9, 10, 11, 12, 13, 14, 15, 16] [0, 1, 2, 3, 4, 5, 6, 7, 8, 9, 10, 11, 12, 13, 14, 15, 16, 17, 18, 19, 20, 21, 22, 23, 24, 25, 26, 27, 28, 29, 30, 31, 32, 33] rfl (by decide) rfl (by decide) (by decide) (by decide) (fun _ => rfl) rfl rfl rfl rfl hl.1 rfl (Nat.le_of_ble_eq_true rfl) dL_law_414 ⟨by show _ ≤ 1064; omega, by show _ ≤ 11400; omega⟩ (fun r414 u414 H locs q414 hP hD hS => ?_)
  try dsimp only at q414
  have hP : va_P D vwCl ((WO cI cJ ad ao u386.1 lo hi T Dv u386.2 og) ++ (WM cI am u414.1 ah bk bo mv T Dv u414.2 0 mo)) H := hP
  have hD : va_D (aH s) ((WO cI cJ ad ao u386.1 lo hi T Dv u386.2 og) ++ (WM cI am u414.1 ah bk bo mv T Dv u414.2 0 mo)) := hD
  obtain ⟨fx, dx⟩ := u386
  obtain ⟨fm, dm⟩ := u414
  dsimp only at *
  rcases q386 with ⟨a1, a2, a3, a4⟩ | ⟨a1, a2, a3⟩
  · skip
    rcases q414 with ⟨b1, b2, b3, b4⟩ | ⟨b1, b2, b3⟩
    · skip
      obtain rfl : fx = chkF f Cn (xs (5 * j + 1)) (xs (5 * j + 2)) (xs (5 * j + 3)) (xs (5 * j + 4)) := a3
      obtain rfl : fm = chkF f Cn (xs (5 * j + 1)) (xs (5 * j + 2)) (xs (5 * j + 3)) (xs (5 * j + 4)) := b3
      obtain rfl : dm = dx := t_inj (by omega)
      refine c_icmp_eq (tgt := 809) hx hb dL_law_417 (by decide) (fun _ => ?_) (fun cn => absurd (a2.trans b2.symm) cn)
      refine W.widen (k := 34 + (j + 1)) (n := 3172 + 6 * (j + 1)) (by omega) (by omega) ?_
      exact K (chkF f Cn (xs (5 * j + 1)) (xs (5 * j + 2)) (xs (5 * j + 3)) (xs (5 * j + 4))) lo hi T Dv _ og ah bk bo mv 0 mo (Tn) (Dn) (Cn + 1) _ _ _ _ ⟨Inv_chk hI a1, hT, hDv, (by omega), hP, hD, hS⟩ hx4 (lv_sub hl [0, 1, 2, 3, 4] rfl)
    · skip
      exact absurd a1 b1
  · skip
    rcases q414 with ⟨b1, b2, b3, b4⟩ | ⟨b1, b2, b3⟩
    · skip
      exact absurd b1 a1
    · skip
      cases a3
      cases b3
      refine c_icmp_eq (tgt := 809) hx hb dL_law_417 (by decide) (fun _ => ?_) (fun cn => absurd (a2.trans b2.symm) cn)
      refine W.widen (k := 34 + (j + 1)) (n := 3172 + 6 * (j + 1)) (by omega) (by omega) ?_
      exact K _ _ _ _ _ _ _ _ _ _ _ 0 mo (Tn) (Dn) (Cn) _ _ _ _ ⟨hI, hT, hDv, hC, hP, hD, hS⟩ hx4 (lv_sub hl [0, 1, 2, 3, 4] rfl)
