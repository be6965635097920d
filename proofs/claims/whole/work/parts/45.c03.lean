set_option maxHeartbeats 4000000 in
set_option maxRecDepth 100000 in
theorem law_3 {p : Program} {l : Launch} {e : Env} {s : State} {m : MethodId} {below : List Frame} {meth : Method} {c : Code} {b L : Nat} {xs : Nat → Int32} {D : va_G} {cI cJ : ClassId} {sa : Nat → Nat} {ad am : Nat → Nat} {ao j : Nat} (cx : Lcx p l s m meth c b L xs D cI cJ sa) (hL : L ≤ 2560) (hj : 5 * j + 5 ≤ L) (K : K809 p l e s m below meth c b D cI cJ ad am ao j)
    (f : Nat → Nat → Int32) (lo hi : Nat → Int32) (T Dv C : Int32) (og : Nat → Int64) (ah bk bo mv : Nat → Int32) (th mo : Int32) (Tn Dn Cn : Nat) (H : Heap) (locs : List Loc) (ls : Array Slot) (x4 : Int32) (hst : Lst s D cI cJ ad am ao f lo hi T Dv C og ah bk bo mv th mo Tn Dn Cn H locs) (hx4 : x4.toInt = 5 * (j : Int)) (hl : lv_has ls 7 (Llv b ad am ao x4)) :
    W p l e room_1 s m #[Value.ref b] below meth c H locs (34 + j) (3172 + 6 * j) (lw_Z below #[Value.ref b] s) (F0 m 263 ls []) := by
  obtain ⟨⟨hx, hb, hr, hml, hown, hts0, hX, hbl, hlocks, hgv⟩, hnst, hts, hK, hth, hnc⟩ := id cx
  obtain ⟨hI, hT, hDv, hC, hP, hD, hS⟩ := hst
  have hown : s.vm.findClass RL = some m.cls := hown
  have hA : ∀ q : Nat, s.heap.size ≤ q → aH s q := fun _ h => h
  have hbA : ¬ aH s b := Nat.not_le.mpr hbl
  have hK0 : va_K D vwCl [(cI, .int)] s := hK.sub [0] rfl
  have hl : lv_has ls 7 [(0, .ref b), (1, .ref (ad 0)), (2, .ref (am 0)), (3, .ref ao), (4, .int x4)] := hl
  refine lv_aload_n hx hb dL_law_263 rfl (lv_at hl 1 rfl) ?_
  refine lv_aload_n hx hb dL_law_264 rfl (lv_at hl 0 rfl) ?_
  refine lv_iload hx hb dL_law_265 (lv_at hl 4 rfl) ?_
  refine c_iconst hx hb dL_law_267 (by decide) (fun v267 i267 => ?_)
  refine c_iadd hx hb dL_law_268 (by omega) (fun v268 i268 => ?_)
  refine c_sld hx hb hX hbl hbA hS (5 * j + 1) (by omega) (by omega) dL_law_269 ?_
  refine lv_aload_n hx hb dL_law_270 rfl (lv_at hl 0 rfl) ?_
  refine lv_iload hx hb dL_law_271 (lv_at hl 4 rfl) ?_
  refine c_iconst hx hb dL_law_273 (by decide) (fun v273 i273 => ?_)
  refine c_iadd hx hb dL_law_274 (by omega) (fun v274 i274 => ?_)
  refine c_sld hx hb hX hbl hbA hS (5 * j + 2) (by omega) (by omega) dL_law_275 ?_
  refine lv_aload_n hx hb dL_law_276 rfl (lv_at hl 0 rfl) ?_
  refine lv_iload hx hb dL_law_277 (lv_at hl 4 rfl) ?_
  refine c_iconst hx hb dL_law_279 (by decide) (fun v279 i279 => ?_)
  refine c_iadd hx hb dL_law_280 (by omega) (fun v280 i280 => ?_)
  refine c_sld hx hb hX hbl hbA hS (5 * j + 3) (by omega) (by omega) dL_law_281 ?_
  refine c_cvi (As := [.int (xs (5 * j + 1)), .int (xs (5 * j + 2)), .int (xs (5 * j + 3))]) (ci := 1) (q0 := 0) (wr := ([(ao, .inl (cJ, 1, .inr (.inl og)))] ++ (WM cI am f ah bk bo mv T Dv C th mo))) (wF := (fun uZ => ((WO cI cJ ad ao uZ lo hi T Dv C og) ++ (WM cI am f ah bk bo mv T Dv C th mo)))) (kX1_lack l D cI ad f lo hi T Dv C Tn Dn Cn (xs (5 * j + 1)) (xs (5 * j + 2)) (xs (5 * j + 3)) hT hDv hC hI) ⟨hx, hb, hml, hown, hts⟩ (cwV 3 hts gL_law_X1_lack rfl rfl rfl (by decide +kernel) ⟨Nat.le_of_ble_eq_true rfl, Nat.le_of_ble_eq_true rfl⟩) hK0 hP hD hS hA [0, 1, 2, 3, 4, 5, 6, 7, 8, 9, 10, 11, 12, 13, 14, 15] [16, 17, 18, 19, 20, 21, 22, 23, 24, 25, 26, 27, 28, 29, 30, 31, 32, 33] [18, 19, 20, 21, 22, 23, 24, 25, 26, 27, 28, 29, 30, 31, 32, 33, 0, 1, 2, 3, 4, 5, 6, 7, 8, 9, 10, 11, 12, 13, 14, 15, 16, 17] rfl (by decide) rfl (by decide) (by decide) (by decide) (fun _ => rfl) rfl rfl rfl rfl hl.1 rfl (Nat.le_of_ble_eq_true rfl) dL_law_282 ⟨by show _ ≤ 1064; omega, by show _ ≤ 11400; omega⟩ (fun r282 u282 H locs q282 hP hD hS => ?_)
  try dsimp only at q282
  have hP : va_P D vwCl ((WO cI cJ ad ao u282 lo hi T Dv C og) ++ (WM cI am f ah bk bo mv T Dv C th mo)) H := hP
  have hD : va_D (aH s) ((WO cI cJ ad ao u282 lo hi T Dv C og) ++ (WM cI am f ah bk bo mv T Dv C th mo)) := hD
  refine lv_aload_n hx hb dL_law_285 rfl (lv_at hl 2 rfl) ?_
  refine lv_aload_n hx hb dL_law_286 rfl (lv_at hl 0 rfl) ?_
  refine lv_iload hx hb dL_law_287 (lv_at hl 4 rfl) ?_
  refine c_iconst hx hb dL_law_289 (by decide) (fun v289 i289 => ?_)
  refine c_iadd hx hb dL_law_290 (by omega) (fun v290 i290 => ?_)
  refine c_sld hx hb hX hbl hbA hS (5 * j + 1) (by omega) (by omega) dL_law_291 ?_
  refine lv_aload_n hx hb dL_law_292 rfl (lv_at hl 0 rfl) ?_
  refine lv_iload hx hb dL_law_293 (lv_at hl 4 rfl) ?_
  refine c_iconst hx hb dL_law_295 (by decide) (fun v295 i295 => ?_)
  refine c_iadd hx hb dL_law_296 (by omega) (fun v296 i296 => ?_)
  refine c_sld hx hb hX hbl hbA hS (5 * j + 2) (by omega) (by omega) dL_law_297 ?_
  refine lv_aload_n hx hb dL_law_298 rfl (lv_at hl 0 rfl) ?_
  refine lv_iload hx hb dL_law_299 (lv_at hl 4 rfl) ?_
  refine c_iconst hx hb dL_law_301 (by decide) (fun v301 i301 => ?_)
  refine c_iadd hx hb dL_law_302 (by omega) (fun v302 i302 => ?_)
  refine c_sld hx hb hX hbl hbA hS (5 * j + 3) (by omega) (by omega) dL_law_303 ?_
  refine c_cvi (As := [.int (xs (5 * j + 1)), .int (xs (5 * j + 2)), .int (xs (5 * j + 3))]) (ci := 2) (q0 := 0) (wr := (WO cI cJ ad ao u282 lo hi T Dv C og)) (wF := (fun uZ => ((WO cI cJ ad ao u282 lo hi T Dv C og) ++ (WM cI am uZ ah bk bo mv T Dv C 0 mo)))) (kX2_lack l D cI am f ah bk bo mv T Dv C th mo Tn Dn Cn (xs (5 * j + 1)) (xs (5 * j + 2)) (xs (5 * j + 3)) hT hDv hC hI) ⟨hx, hb, hml, hown, hts⟩ (cwV 3 hts gL_law_X2_lack rfl rfl rfl (by decide +kernel) ⟨Nat.le_of_ble_eq_true rfl, Nat.le_of_ble_eq_true rfl⟩) hK0 hP hD hS hA [17, 18, 19, 20, 21, 22, 23, 24, 25, 26, 27, 28, 29, 30, 31, 32, 33] [0, 1, 2, 3, 4, 5, 6, 7, 8, 9, 10, 11, 12, 13, 14, 15, 16] [0, 1, 2, 3, 4, 5, 6, 7, 8, 9, 10, 11, 12, 13, 14, 15, 16, 17, 18, 19, 20, 21, 22, 23, 24, 25, 26, 27, 28, 29, 30, 31, 32, 33] rfl (by decide) rfl (by decide) (by decide) (by decide) (fun _ => rfl) rfl rfl rfl rfl hl.1 rfl (Nat.le_of_ble_eq_true rfl) dL_law_304 ⟨by show _ ≤ 1064; omega, by show _ ≤ 11400; omega⟩ (fun r304 u304 H locs q304 hP hD hS => ?_)
  try dsimp only at q304
  have hP : va_P D vwCl ((WO cI cJ ad ao u282 lo hi T Dv C og) ++ (WM cI am u304 ah bk bo mv T Dv C 0 mo)) H := hP
  have hD : va_D (aH s) ((WO cI cJ ad ao u282 lo hi T Dv C og) ++ (WM cI am u304 ah bk bo mv T Dv C 0 mo)) := hD
  have hPz := hP
  have hDz := hD
  rcases q282 with ⟨a1, a2, rfl⟩ | ⟨a1, a2, rfl⟩
  · skip
    rcases q304 with ⟨b1, b2, rfl⟩ | ⟨b1, b2, rfl⟩
    · skip
      refine c_icmp_eq (tgt := 809) hx hb dL_law_307 (by decide) (fun _ => ?_) (fun cn => absurd (a2.trans b2.symm) cn)
      refine W.widen (k := 34 + (j + 1)) (n := 3172 + 6 * (j + 1)) (by omega) (by omega) ?_
      exact K (lck f (xs (5 * j + 1)).toInt.toNat (xs (5 * j + 2)).toInt.toNat ((xs (5 * j + 3)).toInt.toNat + 1 - (xs (5 * j + 2)).toInt.toNat)) lo hi T Dv C og ah bk bo mv 0 mo (Tn) (Dn) (Cn) _ _ _ _ ⟨Inv_lck hI _, hT, hDv, hC, hPz, hDz, hS⟩ hx4 (lv_sub hl [0, 1, 2, 3, 4] rfl)
    · skip
      exact absurd a1 b1
  · skip
    rcases q304 with ⟨b1, b2, rfl⟩ | ⟨b1, b2, rfl⟩
    · skip
      exact absurd b1 a1
    · skip
      refine c_icmp_eq (tgt := 809) hx hb dL_law_307 (by decide) (fun _ => ?_) (fun cn => absurd (a2.trans b2.symm) cn)
      refine W.widen (k := 34 + (j + 1)) (n := 3172 + 6 * (j + 1)) (by omega) (by omega) ?_
      exact K _ _ _ _ _ _ _ _ _ _ _ 0 mo (Tn) (Dn) (Cn) _ _ _ _ ⟨hI, hT, hDv, hC, hPz, hDz, hS⟩ hx4 (lv_sub hl [0, 1, 2, 3, 4] rfl)
