set_option maxHeartbeats 4000000 in
set_option maxRecDepth 100000 in
theorem law_4 {p : Program} {l : Launch} {e : Env} {s : State} {m : MethodId} {below : List Frame} {meth : Method} {c : Code} {b L : Nat} {xs : Nat → Int32} {D : va_G} {cI cJ : ClassId} {sa : Nat → Nat} {ad am : Nat → Nat} {ao j : Nat} (cx : Lcx p l s m meth c b L xs D cI cJ sa) (hL : L ≤ 2560) (hj : 5 * j + 5 ≤ L) (K : K809 p l e s m below meth c b D cI cJ ad am ao j)
    (f : Nat → Nat → Int32) (lo hi : Nat → Int32) (T Dv C : Int32) (og : Nat → Int64) (ah bk bo mv : Nat → Int32) (th mo : Int32) (Tn Dn Cn : Nat) (H : Heap) (locs : List Loc) (ls : Array Slot) (x4 : Int32) (hst : Lst s D cI cJ ad am ao f lo hi T Dv C og ah bk bo mv th mo Tn Dn Cn H locs) (hx4 : x4.toInt = 5 * (j : Int)) (hl : lv_has ls 7 (Llv b ad am ao x4)) :
    W p l e room_1 s m #[Value.ref b] below meth c H locs (34 + j) (3172 + 6 * j) (lw_Z below #[Value.ref b] s) (F0 m 312 ls []) := by
  obtain ⟨⟨hx, hb, hr, hml, hown, hts0, hX, hbl, hlocks, hgv⟩, hnst, hts, hK, hth, hnc⟩ := id cx
  obtain ⟨hI, hT, hDv, hC, hP, hD, hS⟩ := hst
  have hown : s.vm.findClass RL = some m.cls := hown
  have hA : ∀ q : Nat, s.heap.size ≤ q → aH s q := fun _ h => h
  have hbA : ¬ aH s b := Nat.not_le.mpr hbl
  have hK0 : va_K D vwCl [(cI, .int)] s := hK.sub [0] rfl
  have hl : lv_has ls 7 [(0, .ref b), (1, .ref (ad 0)), (2, .ref (am 0)), (3, .ref ao), (4, .int x4)] := hl
  refine lv_aload_n hx hb dL_law_312 rfl (lv_at hl 1 rfl) ?_
  refine lv_aload_n hx hb dL_law_313 rfl (lv_at hl 0 rfl) ?_
  refine lv_iload hx hb dL_law_314 (lv_at hl 4 rfl) ?_
  refine c_iconst hx hb dL_law_316 (by decide) (fun v316 i316 => ?_)
  refine c_iadd hx hb dL_law_317 (by omega) (fun v317 i317 => ?_)
  refine c_sld hx hb hX hbl hbA hS (5 * j + 1) (by omega) (by omega) dL_law_318 ?_
  refine lv_aload_n hx hb dL_law_319 rfl (lv_at hl 0 rfl) ?_
  refine lv_iload hx hb dL_law_320 (lv_at hl 4 rfl) ?_
  refine c_iconst hx hb dL_law_322 (by decide) (fun v322 i322 => ?_)
  refine c_iadd hx hb dL_law_323 (by omega) (fun v323 i323 => ?_)
  refine c_sld hx hb hX hbl hbA hS (5 * j + 2) (by omega) (by omega) dL_law_324 ?_
  refine lv_aload_n hx hb dL_law_325 rfl (lv_at hl 0 rfl) ?_
  refine lv_iload hx hb dL_law_326 (lv_at hl 4 rfl) ?_
  refine c_iconst hx hb dL_law_328 (by decide) (fun v328 i328 => ?_)
  refine c_iadd hx hb dL_law_329 (by omega) (fun v329 i329 => ?_)
  refine c_sld hx hb hX hbl hbA hS (5 * j + 3) (by omega) (by omega) dL_law_330 ?_
  refine c_cvi (As := [.int (xs (5 * j + 1)), .int (xs (5 * j + 2)), .int (xs (5 * j + 3))]) (ci := 1) (q0 := 0) (wr := ([(ao, .inl (cJ, 1, .inr (.inl og)))] ++ (WM cI am f ah bk bo mv T Dv C th mo))) (wF := (fun uZ => ((WO cI cJ ad ao uZ lo hi T Dv C og) ++ (WM cI am f ah bk bo mv T Dv C th mo)))) (kX1_start l D cI ad f lo hi T Dv C Tn Dn Cn (xs (5 * j + 1)) (xs (5 * j + 2)) (xs (5 * j + 3)) hT hDv hC hI) ⟨hx, hb, hml, hown, hts⟩ (cwV 3 hts gL_law_X1_start rfl rfl rfl (by decide +kernel) ⟨Nat.le_of_ble_eq_true rfl, Nat.le_of_ble_eq_true rfl⟩) hK0 hP hD hS hA [0, 1, 2, 3, 4, 5, 6, 7, 8, 9, 10, 11, 12, 13, 14, 15] [16, 17, 18, 19, 20, 21, 22, 23, 24, 25, 26, 27, 28, 29, 30, 31, 32, 33] [18, 19, 20, 21, 22, 23, 24, 25, 26, 27, 28, 29, 30, 31, 32, 33, 0, 1, 2, 3, 4, 5, 6, 7, 8, 9, 10, 11, 12, 13, 14, 15, 16, 17] rfl (by decide) rfl (by decide) (by decide) (by decide) (fun _ => rfl) rfl rfl rfl rfl hl.1 rfl (Nat.le_of_ble_eq_true rfl) dL_law_331 ⟨by show _ ≤ 1064; omega, by show _ ≤ 11400; omega⟩ (fun r331 u331 H locs q331 hP hD hS => ?_)
  try dsimp only at q331
  have hP : va_P D vwCl ((WO cI cJ ad ao u331 lo hi T Dv C og) ++ (WM cI am f ah bk bo mv T Dv C th mo)) H := hP
  have hD : va_D (aH s) ((WO cI cJ ad ao u331 lo hi T Dv C og) ++ (WM cI am f ah bk bo mv T Dv C th mo)) := hD
  refine lv_aload_n hx hb dL_law_334 rfl (lv_at hl 2 rfl) ?_
  refine lv_aload_n hx hb dL_law_335 rfl (lv_at hl 0 rfl) ?_
  refine lv_iload hx hb dL_law_336 (lv_at hl 4 rfl) ?_
  refine c_iconst hx hb dL_law_338 (by decide) (fun v338 i338 => ?_)
  refine c_iadd hx hb dL_law_339 (by omega) (fun v339 i339 => ?_)
  refine c_sld hx hb hX hbl hbA hS (5 * j + 1) (by omega) (by omega) dL_law_340 ?_
  refine lv_aload_n hx hb dL_law_341 rfl (lv_at hl 0 rfl) ?_
  refine lv_iload hx hb dL_law_342 (lv_at hl 4 rfl) ?_
  refine c_iconst hx hb dL_law_344 (by decide) (fun v344 i344 => ?_)
  refine c_iadd hx hb dL_law_345 (by omega) (fun v345 i345 => ?_)
  refine c_sld hx hb hX hbl hbA hS (5 * j + 2) (by omega) (by omega) dL_law_346 ?_
  refine lv_aload_n hx hb dL_law_347 rfl (lv_at hl 0 rfl) ?_
  refine lv_iload hx hb dL_law_348 (lv_at hl 4 rfl) ?_
  refine c_iconst hx hb dL_law_350 (by decide) (fun v350 i350 => ?_)
  refine c_iadd hx hb dL_law_351 (by omega) (fun v351 i351 => ?_)
  refine c_sld hx hb hX hbl hbA hS (5 * j + 3) (by omega) (by omega) dL_law_352 ?_
  refine c_cvi (As := [.int (xs (5 * j + 1)), .int (xs (5 * j + 2)), .int (xs (5 * j + 3))]) (ci := 2) (q0 := 0) (wr := (WO cI cJ ad ao u331 lo hi T Dv C og)) (wF := (fun uZ => ((WO cI cJ ad ao u331 lo hi T Dv C og) ++ (WM cI am uZ ah bk bo mv T Dv C 0 mo)))) (kX2_start l D cI am f ah bk bo mv T Dv C th mo Tn Dn Cn (xs (5 * j + 1)) (xs (5 * j + 2)) (xs (5 * j + 3)) hT hDv hC hI) ⟨hx, hb, hml, hown, hts⟩ (cwV 3 hts gL_law_X2_start rfl rfl rfl (by decide +kernel) ⟨Nat.le_of_ble_eq_true rfl, Nat.le_of_ble_eq_true rfl⟩) hK0 hP hD hS hA [17, 18, 19, 20, 21, 22, 23, 24, 25, 26, 27, 28, 29, 30, 31, 32, 33] [0, 1, 2, 3, 4, 5, 6, 7, 8, 9, 10, 11, 12, 13, 14, 15, 16] [0, 1, 2, 3, 4, 5, 6, 7, 8, 9, 10, 11, 12, 13, 14, 15, 16, 17, 18, 19, 20, 21, 22, 23, 24, 25, 26, 27, 28, 29, 30, 31, 32, 33] rfl (by decide) rfl (by decide) (by decide) (by decide) (fun _ => rfl) rfl rfl rfl rfl hl.1 rfl (Nat.le_of_ble_eq_true rfl) dL_law_353 ⟨by show _ ≤ 1064; omega, by show _ ≤ 11400; omega⟩ (fun r353 u353 H locs q353 hP hD hS => ?_)
  try dsimp only at q353
  have hP : va_P D vwCl ((WO cI cJ ad ao u331 lo hi T Dv C og) ++ (WM cI am u353 ah bk bo mv T Dv C 0 mo)) H := hP
  have hD : va_D (aH s) ((WO cI cJ ad ao u331 lo hi T Dv C og) ++ (WM cI am u353 ah bk bo mv T Dv C 0 mo)) := hD
  have hPz := hP
  have hDz := hD
  rcases q331 with ⟨a1, a2, rfl⟩ | ⟨a1, a2, rfl⟩
  · skip
    rcases q353 with ⟨b1, b2, rfl⟩ | ⟨b1, b2, rfl⟩
    · skip
      refine c_icmp_eq (tgt := 809) hx hb dL_law_356 (by decide) (fun _ => ?_) (fun cn => absurd (a2.trans b2.symm) cn)
      refine W.widen (k := 34 + (j + 1)) (n := 3172 + 6 * (j + 1)) (by omega) (by omega) ?_
      exact K (staF f (xs (5 * j + 1)).toInt.toNat (xs (5 * j + 2)) (xs (5 * j + 3))) lo hi T Dv C og ah bk bo mv 0 mo (Tn) (Dn) (Cn) _ _ _ _ ⟨Inv_sta hI a1.2, hT, hDv, hC, hPz, hDz, hS⟩ hx4 (lv_sub hl [0, 1, 2, 3, 4] rfl)
    · skip
      exact absurd a1 b1
  · skip
    rcases q353 with ⟨b1, b2, rfl⟩ | ⟨b1, b2, rfl⟩
    · skip
      exact absurd b1 a1
    · skip
      refine c_icmp_eq (tgt := 809) hx hb dL_law_356 (by decide) (fun _ => ?_) (fun cn => absurd (a2.trans b2.symm) cn)
      refine W.widen (k := 34 + (j + 1)) (n := 3172 + 6 * (j + 1)) (by omega) (by omega) ?_
      exact K _ _ _ _ _ _ _ _ _ _ _ 0 mo (Tn) (Dn) (Cn) _ _ _ _ ⟨hI, hT, hDv, hC, hPz, hDz, hS⟩ hx4 (lv_sub hl [0, 1, 2, 3, 4] rfl)
