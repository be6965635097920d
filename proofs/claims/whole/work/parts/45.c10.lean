set_option maxHeartbeats 4000000 in
set_option maxRecDepth 100000 in
theorem law_10 {p : Program} {l : Launch} {e : Env} {s : State} {m : MethodId} {below : List Frame} {meth : Method} {c : Code} {b L : Nat} {xs : Nat → Int32} {D : va_G} {cI cJ : ClassId} {sa : Nat → Nat} {ad am : Nat → Nat} {ao j : Nat} (cx : Lcx p l s m meth c b L xs D cI cJ sa) (hL : L ≤ 2560) (hj : 5 * j + 5 ≤ L) (K : K809 p l e s m below meth c b D cI cJ ad am ao j)
    (f : Nat → Nat → Int32) (lo hi : Nat → Int32) (T Dv C : Int32) (og : Nat → Int64) (ah bk bo mv : Nat → Int32) (th mo : Int32) (Tn Dn Cn : Nat) (H : Heap) (locs : List Loc) (ls : Array Slot) (x4 : Int32) (hst : Lst s D cI cJ ad am ao f lo hi T Dv C og ah bk bo mv th mo Tn Dn Cn H locs) (hx4 : x4.toInt = 5 * (j : Int)) (hl : lv_has ls 7 (Llv b ad am ao x4)) :
    W p l e room_1 s m #[Value.ref b] below meth c H locs (34 + j) (3172 + 6 * j) (lw_Z below #[Value.ref b] s) (F0 m 569 ls []) := by
  obtain ⟨⟨hx, hb, hr, hml, hown, hts0, hX, hbl, hlocks, hgv⟩, hnst, hts, hK, hth, hnc⟩ := id cx
  obtain ⟨hI, hT, hDv, hC, hP, hD, hS⟩ := hst
  have hown : s.vm.findClass RL = some m.cls := hown
  have hA : ∀ q : Nat, s.heap.size ≤ q → aH s q := fun _ h => h
  have hbA : ¬ aH s b := Nat.not_le.mpr hbl
  have hK0 : va_K D vwCl [(cI, .int)] s := hK.sub [0] rfl
  have hl : lv_has ls 7 [(0, .ref b), (1, .ref (ad 0)), (2, .ref (am 0)), (3, .ref ao), (4, .int x4)] := hl
  refine lv_aload_n hx hb dL_law_569 rfl (lv_at hl 1 rfl) ?_
  refine lv_aload_n hx hb dL_law_570 rfl (lv_at hl 0 rfl) ?_
  refine lv_iload hx hb dL_law_571 (lv_at hl 4 rfl) ?_
  refine c_iconst hx hb dL_law_573 (by decide) (fun v573 i573 => ?_)
  refine c_iadd hx hb dL_law_574 (by omega) (fun v574 i574 => ?_)
  refine c_sld hx hb hX hbl hbA hS (5 * j + 1) (by omega) (by omega) dL_law_575 ?_
  refine c_cvi (As := [.int (xs (5 * j + 1))]) (ci := 1) (q0 := 0) (wr := ([(ao, .inl (cJ, 1, .inr (.inl og)))] ++ (WM cI am f ah bk bo mv T Dv C th mo))) (wF := (fun uZ => ((WO cI cJ ad ao f uZ.1 uZ.2 T Dv C og) ++ (WM cI am f ah bk bo mv T Dv C th mo)))) (kX1_surely l D cI ad f lo hi T Dv C Tn Dn Cn (xs (5 * j + 1)) hT hDv hC hI) ⟨hx, hb, hml, hown, hts⟩ (cwV 1 hts gL_law_X1_surely rfl rfl rfl (by decide +kernel) ⟨Nat.le_of_ble_eq_true rfl, Nat.le_of_ble_eq_true rfl⟩) hK0 hP hD hS hA [0, 1, 2, 3, 4, 5, 6, 7, 8, 9, 10, 11, 12, 13, 14, 15] [16, 17, 18, 19, 20, 21, 22, 23, 24, 25, 26, 27, 28, 29, 30, 31, 32, 33] [18, 19, 20, 21, 22, 23, 24, 25, 26, 27, 28, 29, 30, 31, 32, 33, 0, 1, 2, 3, 4, 5, 6, 7, 8, 9, 10, 11, 12, 13, 14, 15, 16, 17] rfl (by decide) rfl (by decide) (by decide) (by decide) (fun _ => rfl) rfl rfl rfl rfl hl.1 rfl (Nat.le_of_ble_eq_true rfl) dL_law_576 ⟨by show _ ≤ 1064; omega, by show _ ≤ 11400; omega⟩ (fun r576 u576 H locs q576 hP hD hS => ?_)
  try dsimp only at q576
  have hP : va_P D vwCl ((WO cI cJ ad ao f u576.1 u576.2 T Dv C og) ++ (WM cI am f ah bk bo mv T Dv C th mo)) H := hP
  have hD : va_D (aH s) ((WO cI cJ ad ao f u576.1 u576.2 T Dv C og) ++ (WM cI am f ah bk bo mv T Dv C th mo)) := hD
  refine lv_aload_n hx hb dL_law_579 rfl (lv_at hl 2 rfl) ?_
  refine lv_aload_n hx hb dL_law_580 rfl (lv_at hl 0 rfl) ?_
  refine lv_iload hx hb dL_law_581 (lv_at hl 4 rfl) ?_
  refine c_iconst hx hb dL_law_583 (by decide) (fun v583 i583 => ?_)
  refine c_iadd hx hb dL_law_584 (by omega) (fun v584 i584 => ?_)
  refine c_sld hx hb hX hbl hbA hS (5 * j + 1) (by omega) (by omega) dL_law_585 ?_
  refine c_cvi (As := [.int (xs (5 * j + 1))]) (ci := 2) (q0 := 0) (wr := (WO cI cJ ad ao f u576.1 u576.2 T Dv C og)) (wF := (fun uZ => ((WO cI cJ ad ao f u576.1 u576.2 T Dv C og) ++ (WM cI am f uZ.1 uZ.2.1 uZ.2.2.1 uZ.2.2.2.1 T Dv C uZ.2.2.2.2.1 uZ.2.2.2.2.2)))) (kX2_surely l D cI am f ah bk bo mv T Dv C th mo Tn Dn Cn (xs (5 * j + 1)) hT hDv hC hI) ⟨hx, hb, hml, hown, hts⟩ (cwV 1 hts gL_law_X2_surely rfl rfl rfl (by decide +kernel) ⟨Nat.le_of_ble_eq_true rfl, Nat.le_of_ble_eq_true rfl⟩) hK0 hP hD hS hA [17, 18, 19, 20, 21, 22, 23, 24, 25, 26, 27, 28, 29, 30, 31, 32, 33] [0, 1, 2, 3, 4, 5, 6, 7, 8, 9, 10, 11, 12, 13, 14, 15, 16] [0, 1, 2, 3, 4, 5, 6, 7, 8, 9, 10, 11, 12, 13, 14, 15, 16, 17, 18, 19, 20, 21, 22, 23, 24, 25, 26, 27, 28, 29, 30, 31, 32, 33] rfl (by decide) rfl (by decide) (by decide) (by decide) (fun _ => rfl) rfl rfl rfl rfl hl.1 rfl (Nat.le_of_ble_eq_true rfl) dL_law_586 ⟨by show _ ≤ 1064; omega, by show _ ≤ 11400; omega⟩ (fun r586 u586 H locs q586 hP hD hS => ?_)
  try dsimp only at q586
  have hP : va_P D vwCl ((WO cI cJ ad ao f u576.1 u576.2 T Dv C og) ++ (WM cI am f u586.1 u586.2.1 u586.2.2.1 u586.2.2.2.1 T Dv C u586.2.2.2.2.1 u586.2.2.2.2.2)) H := hP
  have hD : va_D (aH s) ((WO cI cJ ad ao f u576.1 u576.2 T Dv C og) ++ (WM cI am f u586.1 u586.2.1 u586.2.2.1 u586.2.2.2.1 T Dv C u586.2.2.2.2.1 u586.2.2.2.2.2)) := hD
  refine c_icmp_eq (tgt := 809) hx hb dL_law_589 (by decide) (fun _ => ?_) (fun cn => absurd (FA_uniq (by decide) q576 q586) cn)
  refine W.widen (k := 34 + (j + 1)) (n := 3172 + 6 * (j + 1)) (by omega) (by omega) ?_
  exact K f u576.1 u576.2 T Dv C og u586.1 u586.2.1 u586.2.2.1 u586.2.2.2.1 u586.2.2.2.2.1 u586.2.2.2.2.2 (Tn) (Dn) (Cn) _ _ _ _ ⟨hI, hT, hDv, hC, hP, hD, hS⟩ hx4 (lv_sub hl [0, 1, 2, 3, 4] rfl)
