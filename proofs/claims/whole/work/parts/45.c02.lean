set_option maxHeartbeats 4000000 in
set_option maxRecDepth 100000 in
theorem law_2 {p : Program} {l : Launch} {e : Env} {s : State} {m : MethodId} {below : List Frame} {meth : Method} {c : Code} {b L : Nat} {xs : Nat → Int32} {D : va_G} {cI cJ : ClassId} {sa : Nat → Nat} {ad am : Nat → Nat} {ao j : Nat} (cx : Lcx p l s m meth c b L xs D cI cJ sa) (hL : L ≤ 2560) (hj : 5 * j + 5 ≤ L) (K : K809 p l e s m below meth c b D cI cJ ad am ao j)
    (f : Nat → Nat → Int32) (lo hi : Nat → Int32) (T Dv C : Int32) (og : Nat → Int64) (ah bk bo mv : Nat → Int32) (th mo : Int32) (Tn Dn Cn : Nat) (H : Heap) (locs : List Loc) (ls : Array Slot) (x4 : Int32) (hst : Lst s D cI cJ ad am ao f lo hi T Dv C og ah bk bo mv th mo Tn Dn Cn H locs) (hx4 : x4.toInt = 5 * (j : Int)) (hl : lv_has ls 7 (Llv b ad am ao x4)) :
    W p l e room_1 s m #[Value.ref b] below meth c H locs (34 + j) (3172 + 6 * j) (lw_Z below #[Value.ref b] s) (F0 m 202 ls []) := by
  obtain ⟨⟨hx, hb, hr, hml, hown, hts0, hX, hbl, hlocks, hgv⟩, hnst, hts, hK, hth, hnc⟩ := id cx
  obtain ⟨hI, hT, hDv, hC, hP, hD, hS⟩ := hst
  have hown : s.vm.findClass RL = some m.cls := hown
  have hA : ∀ q : Nat, s.heap.size ≤ q → aH s q := fun _ h => h
  have hbA : ¬ aH s b := Nat.not_le.mpr hbl
  have hK0 : va_K D vwCl [(cI, .int)] s := hK.sub [0] rfl
  have hl : lv_has ls 7 [(0, .ref b), (1, .ref (ad 0)), (2, .ref (am 0)), (3, .ref ao), (4, .int x4)] := hl
  refine lv_aload_n hx hb dL_law_202 rfl (lv_at hl 1 rfl) ?_
  refine lv_aload_n hx hb dL_law_203 rfl (lv_at hl 0 rfl) ?_
  refine lv_iload hx hb dL_law_204 (lv_at hl 4 rfl) ?_
  refine c_iconst hx hb dL_law_206 (by decide) (fun v206 i206 => ?_)
  refine c_iadd hx hb dL_law_207 (by omega) (fun v207 i207 => ?_)
  refine c_sld hx hb hX hbl hbA hS (5 * j + 1) (by omega) (by omega) dL_law_208 ?_
  refine lv_aload_n hx hb dL_law_209 rfl (lv_at hl 0 rfl) ?_
  refine lv_iload hx hb dL_law_210 (lv_at hl 4 rfl) ?_
  refine c_iconst hx hb dL_law_212 (by decide) (fun v212 i212 => ?_)
  refine c_iadd hx hb dL_law_213 (by omega) (fun v213 i213 => ?_)
  refine c_sld hx hb hX hbl hbA hS (5 * j + 2) (by omega) (by omega) dL_law_214 ?_
  refine lv_aload_n hx hb dL_law_215 rfl (lv_at hl 0 rfl) ?_
  refine lv_iload hx hb dL_law_216 (lv_at hl 4 rfl) ?_
  refine c_iconst hx hb dL_law_218 (by decide) (fun v218 i218 => ?_)
  refine c_iadd hx hb dL_law_219 (by omega) (fun v219 i219 => ?_)
  refine c_sld hx hb hX hbl hbA hS (5 * j + 3) (by omega) (by omega) dL_law_220 ?_
  refine lv_aload_n hx hb dL_law_221 rfl (lv_at hl 0 rfl) ?_
  refine lv_iload hx hb dL_law_222 (lv_at hl 4 rfl) ?_
  refine c_iconst hx hb dL_law_224 (by decide) (fun v224 i224 => ?_)
  refine c_iadd hx hb dL_law_225 (by omega) (fun v225 i225 => ?_)
  refine c_sld hx hb hX hbl hbA hS (5 * j + 4) (by omega) (by omega) dL_law_226 ?_
  refine c_cvi (As := [.int (xs (5 * j + 1)), .int (xs (5 * j + 2)), .int (xs (5 * j + 3)), .int (xs (5 * j + 4))]) (ci := 1) (q0 := 0) (wr := ([(ao, .inl (cJ, 1, .inr (.inl og)))] ++ (WM cI am f ah bk bo mv T Dv C th mo))) (wF := (fun uZ => ((WO cI cJ ad ao uZ lo hi T Dv C og) ++ (WM cI am f ah bk bo mv T Dv C th mo)))) (kX1_row l D cI ad f lo hi T Dv C Tn Dn Cn (xs (5 * j + 1)) (xs (5 * j + 2)) (xs (5 * j + 3)) (xs (5 * j + 4)) hT hDv hC hI) ⟨hx, hb, hml, hown, hts⟩ (cwV 4 hts gL_law_X1_row rfl rfl rfl (by decide +kernel) ⟨Nat.le_of_ble_eq_true rfl, Nat.le_of_ble_eq_true rfl⟩) hK0 hP hD hS hA [0, 1, 2, 3, 4, 5, 6, 7, 8, 9, 10, 11, 12, 13, 14, 15] [16, 17, 18, 19, 20, 21, 22, 23, 24, 25, 26, 27, 28, 29, 30, 31, 32, 33] [18, 19, 20, 21, 22, 23, 24, 25, 26, 27, 28, 29, 30, 31, 32, 33, 0, 1, 2, 3, 4, 5, 6, 7, 8, 9, 10, 11, 12, 13, 14, 15, 16, 17] rfl (by decide) rfl (by decide) (by decide) (by decide) (fun _ => rfl) rfl rfl rfl rfl hl.1 rfl (Nat.le_of_ble_eq_true rfl) dL_law_227 ⟨by show _ ≤ 1064; omega, by show _ ≤ 11400; omega⟩ (fun r227 u227 H locs q227 hP hD hS => ?_)
  try dsimp only at q227
  have hP : va_P D vwCl ((WO cI cJ ad ao u227 lo hi T Dv C og) ++ (WM cI am f ah bk bo mv T Dv C th mo)) H := hP
  have hD : va_D (aH s) ((WO cI cJ ad ao u227 lo hi T Dv C og) ++ (WM cI am f ah bk bo mv T Dv C th mo)) := hD
  refine lv_aload_n hx hb dL_law_230 rfl (lv_at hl 2 rfl) ?_
  refine lv_aload_n hx hb dL_law_231 rfl (lv_at hl 0 rfl) ?_
  refine lv_iload hx hb dL_law_232 (lv_at hl 4 rfl) ?_
  refine c_iconst hx hb dL_law_234 (by decide) (fun v234 i234 => ?_)
  refine c_iadd hx hb dL_law_235 (by omega) (fun v235 i235 => ?_)
  refine c_sld hx hb hX hbl hbA hS (5 * j + 1) (by omega) (by omega) dL_law_236 ?_
  refine lv_aload_n hx hb dL_law_237 rfl (lv_at hl 0 rfl) ?_
  refine lv_iload hx hb dL_law_238 (lv_at hl 4 rfl) ?_
  refine c_iconst hx hb dL_law_240 (by decide) (fun v240 i240 => ?_)
  refine c_iadd hx hb dL_law_241 (by omega) (fun v241 i241 => ?_)
  refine c_sld hx hb hX hbl hbA hS (5 * j + 2) (by omega) (by omega) dL_law_242 ?_
  refine lv_aload_n hx hb dL_law_243 rfl (lv_at hl 0 rfl) ?_
  refine lv_iload hx hb dL_law_244 (lv_at hl 4 rfl) ?_
  refine c_iconst hx hb dL_law_246 (by decide) (fun v246 i246 => ?_)
  refine c_iadd hx hb dL_law_247 (by omega) (fun v247 i247 => ?_)
  refine c_sld hx hb hX hbl hbA hS (5 * j + 3) (by omega) (by omega) dL_law_248 ?_
  refine lv_aload_n hx hb dL_law_249 rfl (lv_at hl 0 rfl) ?_
  refine lv_iload hx hb dL_law_250 (lv_at hl 4 rfl) ?_
  refine c_iconst hx hb dL_law_252 (by decide) (fun v252 i252 => ?_)
  refine c_iadd hx hb dL_law_253 (by omega) (fun v253 i253 => ?_)
  refine c_sld hx hb hX hbl hbA hS (5 * j + 4) (by omega) (by omega) dL_law_254 ?_
  refine c_cvi (As := [.int (xs (5 * j + 1)), .int (xs (5 * j + 2)), .int (xs (5 * j + 3)), .int (xs (5 * j + 4))]) (ci := 2) (q0 := 0) (wr := (WO cI cJ ad ao u227 lo hi T Dv C og)) (wF := (fun uZ => ((WO cI cJ ad ao u227 lo hi T Dv C og) ++ (WM cI am uZ ah bk bo mv T Dv C 0 mo)))) (kX2_row l D cI am f ah bk bo mv T Dv C th mo Tn Dn Cn (xs (5 * j + 1)) (xs (5 * j + 2)) (xs (5 * j + 3)) (xs (5 * j + 4)) hT hDv hC hI) ⟨hx, hb, hml, hown, hts⟩ (cwV 4 hts gL_law_X2_row rfl rfl rfl (by decide +kernel) ⟨Nat.le_of_ble_eq_true rfl, Nat.le_of_ble_eq_true rfl⟩) hK0 hP hD hS hA [17, 18, 19, 20, 21, 22, 23, 24, 25, 26, 27, 28, 29, 30, 31, 32, 33] [0, 1, 2, 3, 4, 5, 6, 7, 8, 9, 10, 11, 12, 13, 14, 15, 16] [0, 1, 2, 3, 4, 5, 6, 7, 8, 9, 10, 11, 12, 13, 14, 15, 16, 17, 18, 19, 20, 21, 22, 23, 24, 25, 26, 27, 28, 29, 30, 31, 32, 33] rfl (by decide) rfl (by decide) (by decide) (by decide) (fun _ => rfl) rfl rfl rfl rfl hl.1 rfl (Nat.le_of_ble_eq_true rfl) dL_law_255 ⟨by show _ ≤ 1064; omega, by show _ ≤ 11400; omega⟩ (fun r255 u255 H locs q255 hP hD hS => ?_)
  try dsimp only at q255
  have hP : va_P D vwCl ((WO cI cJ ad ao u227 lo hi T Dv C og) ++ (WM cI am u255 ah bk bo mv T Dv C 0 mo)) H := hP
  have hD : va_D (aH s) ((WO cI cJ ad ao u227 lo hi T Dv C og) ++ (WM cI am u255 ah bk bo mv T Dv C 0 mo)) := hD
  have hPz := hP
  have hDz := hD
  rcases q227 with ⟨a1, a2, rfl⟩ | ⟨a1, a2, rfl⟩
  · skip
    rcases q255 with ⟨b1, b2, rfl⟩ | ⟨b1, b2, rfl⟩
    · skip
      refine c_icmp_eq (tgt := 809) hx hb dL_law_258 (by decide) (fun _ => ?_) (fun cn => absurd (a2.trans b2.symm) cn)
      refine W.widen (k := 34 + (j + 1)) (n := 3172 + 6 * (j + 1)) (by omega) (by omega) ?_
      exact K (rowF f (60 * (xs (5 * j + 1)).toInt.toNat + (xs (5 * j + 2)).toInt.toNat) (xs (5 * j + 3)) (xs (5 * j + 4))) lo hi T Dv C og ah bk bo mv 0 mo (Tn) (Dn) (Cn) _ _ _ _ ⟨Inv_row hI (Or.inl ⟨a1.2.2.1, a1.2.2.2⟩), hT, hDv, hC, hPz, hDz, hS⟩ hx4 (lv_sub hl [0, 1, 2, 3, 4] rfl)
    · skip
      exact absurd a1 b1
  · skip
    rcases q255 with ⟨b1, b2, rfl⟩ | ⟨b1, b2, rfl⟩
    · skip
      exact absurd b1 a1
    · skip
      refine c_icmp_eq (tgt := 809) hx hb dL_law_258 (by decide) (fun _ => ?_) (fun cn => absurd (a2.trans b2.symm) cn)
      refine W.widen (k := 34 + (j + 1)) (n := 3172 + 6 * (j + 1)) (by omega) (by omega) ?_
      exact K _ _ _ _ _ _ _ _ _ _ _ 0 mo (Tn) (Dn) (Cn) _ _ _ _ ⟨hI, hT, hDv, hC, hPz, hDz, hS⟩ hx4 (lv_sub hl [0, 1, 2, 3, 4] rfl)
