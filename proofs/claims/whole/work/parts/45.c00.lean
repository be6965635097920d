set_option maxHeartbeats 4000000 in
set_option maxRecDepth 100000 in
theorem law_0 {p : Program} {l : Launch} {e : Env} {s : State} {m : MethodId} {below : List Frame} {meth : Method} {c : Code} {b L : Nat} {xs : Nat → Int32} {D : va_G} {cI cJ : ClassId} {sa : Nat → Nat} {ad am : Nat → Nat} {ao j : Nat} (cx : Lcx p l s m meth c b L xs D cI cJ sa) (hL : L ≤ 2560) (hj : 5 * j + 5 ≤ L) (K : K809 p l e s m below meth c b D cI cJ ad am ao j)
    (f : Nat → Nat → Int32) (lo hi : Nat → Int32) (T Dv C : Int32) (og : Nat → Int64) (ah bk bo mv : Nat → Int32) (th mo : Int32) (Tn Dn Cn : Nat) (H : Heap) (locs : List Loc) (ls : Array Slot) (x4 : Int32) (hst : Lst s D cI cJ ad am ao f lo hi T Dv C og ah bk bo mv th mo Tn Dn Cn H locs) (hx4 : x4.toInt = 5 * (j : Int)) (hl : lv_has ls 7 (Llv b ad am ao x4)) :
    W p l e room_1 s m #[Value.ref b] below meth c H locs (34 + j) (3172 + 6 * j) (lw_Z below #[Value.ref b] s) (F0 m 116 ls []) := by
  obtain ⟨⟨hx, hb, hr, hml, hown, hts0, hX, hbl, hlocks, hgv⟩, hnst, hts, hK, hth, hnc⟩ := id cx
  obtain ⟨hI, hT, hDv, hC, hP, hD, hS⟩ := hst
  have hown : s.vm.findClass RL = some m.cls := hown
  have hA : ∀ q : Nat, s.heap.size ≤ q → aH s q := fun _ h => h
  have hbA : ¬ aH s b := Nat.not_le.mpr hbl
  have hK0 : va_K D vwCl [(cI, .int)] s := hK.sub [0] rfl
  have hl : lv_has ls 7 [(0, .ref b), (1, .ref (ad 0)), (2, .ref (am 0)), (3, .ref ao), (4, .int x4)] := hl
  refine lv_aload_n hx hb dL_law_116 rfl (lv_at hl 1 rfl) ?_
  refine lv_aload_n hx hb dL_law_117 rfl (lv_at hl 0 rfl) ?_
  refine lv_iload hx hb dL_law_118 (lv_at hl 4 rfl) ?_
  refine c_iconst hx hb dL_law_120 (by decide) (fun v120 i120 => ?_)
  refine c_iadd hx hb dL_law_121 (by omega) (fun v121 i121 => ?_)
  refine c_sld hx hb hX hbl hbA hS (5 * j + 1) (by omega) (by omega) dL_law_122 ?_
  refine c_cvi (As := [.int (xs (5 * j + 1))]) (ci := 1) (q0 := 0) (wr := ([(ao, .inl (cJ, 1, .inr (.inl og)))] ++ (WM cI am f ah bk bo mv T Dv C th mo))) (wF := (fun uZ => ((WO cI cJ ad ao uZ.1 lo hi uZ.2.1 uZ.2.2.1 uZ.2.2.2 og) ++ (WM cI am f ah bk bo mv T Dv C th mo)))) (kX1_day l D cI ad f lo hi T Dv C Tn Dn Cn (xs (5 * j + 1)) hT hDv hC hI) ⟨hx, hb, hml, hown, hts⟩ (cwV 1 hts gL_law_X1_day rfl rfl rfl (by decide +kernel) ⟨Nat.le_of_ble_eq_true rfl, Nat.le_of_ble_eq_true rfl⟩) hK0 hP hD hS hA [0, 1, 2, 3, 4, 5, 6, 7, 8, 9, 10, 11, 12, 13, 14, 15] [16, 17, 18, 19, 20, 21, 22, 23, 24, 25, 26, 27, 28, 29, 30, 31, 32, 33] [18, 19, 20, 21, 22, 23, 24, 25, 26, 27, 28, 29, 30, 31, 32, 33, 0, 1, 2, 3, 4, 5, 6, 7, 8, 9, 10, 11, 12, 13, 14, 15, 16, 17] rfl (by decide) rfl (by decide) (by decide) (by decide) (fun _ => rfl) rfl rfl rfl rfl hl.1 rfl (Nat.le_of_ble_eq_true rfl) dL_law_123 ⟨by show _ ≤ 1064; omega, by show _ ≤ 11400; omega⟩ (fun r123 u123 H locs q123 hP hD hS => ?_)
  try dsimp only at q123
  have hP : va_P D vwCl ((WO cI cJ ad ao u123.1 lo hi u123.2.1 u123.2.2.1 u123.2.2.2 og) ++ (WM cI am f ah bk bo mv T Dv C th mo)) H := hP
  have hD : va_D (aH s) ((WO cI cJ ad ao u123.1 lo hi u123.2.1 u123.2.2.1 u123.2.2.2 og) ++ (WM cI am f ah bk bo mv T Dv C th mo)) := hD
  refine lv_aload_n hx hb dL_law_126 rfl (lv_at hl 2 rfl) ?_
  refine lv_aload_n hx hb dL_law_127 rfl (lv_at hl 0 rfl) ?_
  refine lv_iload hx hb dL_law_128 (lv_at hl 4 rfl) ?_
  refine c_iconst hx hb dL_law_130 (by decide) (fun v130 i130 => ?_)
  refine c_iadd hx hb dL_law_131 (by omega) (fun v131 i131 => ?_)
  refine c_sld hx hb hX hbl hbA hS (5 * j + 1) (by omega) (by omega) dL_law_132 ?_
  refine c_cvi (As := [.int (xs (5 * j + 1))]) (ci := 2) (q0 := 0) (wr := (WO cI cJ ad ao u123.1 lo hi u123.2.1 u123.2.2.1 u123.2.2.2 og)) (wF := (fun uZ => ((WO cI cJ ad ao u123.1 lo hi u123.2.1 u123.2.2.1 u123.2.2.2 og) ++ (WM cI am uZ.1 ah bk bo mv uZ.2.1 uZ.2.2.1 uZ.2.2.2 0 mo)))) (kX2_day l D cI am f ah bk bo mv T Dv C th mo Tn Dn Cn (xs (5 * j + 1)) hT hDv hC hI) ⟨hx, hb, hml, hown, hts⟩ (cwV 1 hts gL_law_X2_day rfl rfl rfl (by decide +kernel) ⟨Nat.le_of_ble_eq_true rfl, Nat.le_of_ble_eq_true rfl⟩) hK0 hP hD hS hA [17, 18, 19, 20, 21, 22, 23, 24, 25, 26, 27, 28, 29, 30, 31, 32, 33] [0, 1, 2, 3, 4, 5, 6, 7, 8, 9, 10, 11, 12, 13, 14, 15, 16] [0, 1, 2, 3, 4, 5, 6, 7, 8, 9, 10, 11, 12, 13, 14, 15, 16, 17, 18, 19, 20, 21, 22, 23, 24, 25, 26, 27, 28, 29, 30, 31, 32, 33] rfl (by decide) rfl (by decide) (by decide) (by decide) (fun _ => rfl) rfl rfl rfl rfl hl.1 rfl (Nat.le_of_ble_eq_true rfl) dL_law_133 ⟨by show _ ≤ 1064; omega, by show _ ≤ 11400; omega⟩ (fun r133 u133 H locs q133 hP hD hS => ?_)
  try dsimp only at q133
  have hP : va_P D vwCl ((WO cI cJ ad ao u123.1 lo hi u123.2.1 u123.2.2.1 u123.2.2.2 og) ++ (WM cI am u133.1 ah bk bo mv u133.2.1 u133.2.2.1 u133.2.2.2 0 mo)) H := hP
  have hD : va_D (aH s) ((WO cI cJ ad ao u123.1 lo hi u123.2.1 u123.2.2.1 u123.2.2.2 og) ++ (WM cI am u133.1 ah bk bo mv u133.2.1 u133.2.2.1 u133.2.2.2 0 mo)) := hD
  rcases q123 with ⟨a1, a2, rfl⟩ | ⟨a1, a2, rfl⟩
  · skip
    rcases q133 with ⟨b1, b2, rfl⟩ | ⟨b1, b2, rfl⟩
    · skip
      refine c_icmp_eq (tgt := 809) hx hb dL_law_136 (by decide) (fun _ => ?_) (fun cn => absurd (a2.trans b2.symm) cn)
      refine W.widen (k := 34 + (j + 1)) (n := 3172 + 6 * (j + 1)) (by omega) (by omega) ?_
      exact K (clr f) lo hi (xs (5 * j + 1)) 0 0 og ah bk bo mv 0 mo ((xs (5 * j + 1)).toInt.toNat) (0) (0) _ _ _ _ ⟨Inv_clr (by omega), (by omega), rfl, rfl, hP, hD, hS⟩ hx4 (lv_sub hl [0, 1, 2, 3, 4] rfl)
    · skip
      exact absurd a1 b1
  · skip
    rcases q133 with ⟨b1, b2, rfl⟩ | ⟨b1, b2, rfl⟩
    · skip
      exact absurd b1 a1
    · skip
      refine c_icmp_eq (tgt := 809) hx hb dL_law_136 (by decide) (fun _ => ?_) (fun cn => absurd (a2.trans b2.symm) cn)
      refine W.widen (k := 34 + (j + 1)) (n := 3172 + 6 * (j + 1)) (by omega) (by omega) ?_
      exact K f lo hi T Dv C og ah bk bo mv 0 mo (Tn) (Dn) (Cn) _ _ _ _ ⟨hI, hT, hDv, hC, hP, hD, hS⟩ hx4 (lv_sub hl [0, 1, 2, 3, 4] rfl)
