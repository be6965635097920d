set_option maxHeartbeats 4000000 in
set_option maxRecDepth 100000 in
theorem law_15 {p : Program} {l : Launch} {e : Env} {s : State} {m : MethodId} {below : List Frame} {meth : Method} {c : Code} {b L : Nat} {xs : Nat → Int32} {D : va_G} {cI cJ : ClassId} {sa : Nat → Nat} {ad am : Nat → Nat} {ao j : Nat} (cx : Lcx p l s m meth c b L xs D cI cJ sa) (hL : L ≤ 2560) (hj : 5 * j + 5 ≤ L) (K : K809 p l e s m below meth c b D cI cJ ad am ao j)
    (f : Nat → Nat → Int32) (lo hi : Nat → Int32) (T Dv C : Int32) (og : Nat → Int64) (ah bk bo mv : Nat → Int32) (th mo : Int32) (Tn Dn Cn : Nat) (H : Heap) (locs : List Loc) (ls : Array Slot) (x4 : Int32) (hst : Lst s D cI cJ ad am ao f lo hi T Dv C og ah bk bo mv th mo Tn Dn Cn H locs) (hx4 : x4.toInt = 5 * (j : Int)) (hl : lv_has ls 7 (Llv b ad am ao x4)) :
    W p l e room_1 s m #[Value.ref b] below meth c H locs (34 + j) (3172 + 6 * j) (lw_Z below #[Value.ref b] s) (F0 m 784 ls []) := by
  obtain ⟨⟨hx, hb, hr, hml, hown, hts0, hX, hbl, hlocks, hgv⟩, hnst, hts, hK, hth, hnc⟩ := id cx
  obtain ⟨hI, hT, hDv, hC, hP, hD, hS⟩ := hst
  have hown : s.vm.findClass RL = some m.cls := hown
  have hA : ∀ q : Nat, s.heap.size ≤ q → aH s q := fun _ h => h
  have hbA : ¬ aH s b := Nat.not_le.mpr hbl
  have hK0 : va_K D vwCl [(cI, .int)] s := hK.sub [0] rfl
  have hl : lv_has ls 7 [(0, .ref b), (1, .ref (ad 0)), (2, .ref (am 0)), (3, .ref ao), (4, .int x4)] := hl
  refine lv_aload_n hx hb dL_law_784 rfl (lv_at hl 1 rfl) ?_
  refine lv_aload_n hx hb dL_law_785 rfl (lv_at hl 0 rfl) ?_
  refine lv_iload hx hb dL_law_786 (lv_at hl 4 rfl) ?_
  refine c_iconst hx hb dL_law_788 (by decide) (fun v788 i788 => ?_)
  refine c_iadd hx hb dL_law_789 (by omega) (fun v789 i789 => ?_)
  refine c_sld hx hb hX hbl hbA hS (5 * j + 1) (by omega) (by omega) dL_law_790 ?_
  refine c_cvi (As := [.int (xs (5 * j + 1))]) (ci := 1) (q0 := 0) (wr := ([(ao, .inl (cJ, 1, .inr (.inl og)))] ++ (WM cI am f ah bk bo mv T Dv C th mo))) (wF := (fun uZ => ((WO cI cJ ad ao f lo hi T Dv C og) ++ (WM cI am f ah bk bo mv T Dv C th mo)))) (kX1_count l D cI ad f lo hi T Dv C Tn Dn Cn (xs (5 * j + 1)) hT hDv hC hI) ⟨hx, hb, hml, hown, hts⟩ (cwV 1 hts gL_law_X1_count rfl rfl rfl (by decide +kernel) ⟨Nat.le_of_ble_eq_true rfl, Nat.le_of_ble_eq_true rfl⟩) hK0 hP hD hS hA [0, 1, 2, 3, 4, 5, 6, 7, 8, 9, 10, 11, 12, 13, 14, 15] [16, 17, 18, 19, 20, 21, 22, 23, 24, 25, 26, 27, 28, 29, 30, 31, 32, 33] [18, 19, 20, 21, 22, 23, 24, 25, 26, 27, 28, 29, 30, 31, 32, 33, 0, 1, 2, 3, 4, 5, 6, 7, 8, 9, 10, 11, 12, 13, 14, 15, 16, 17] rfl (by decide) rfl (by decide) (by decide) (by decide) (fun _ => rfl) rfl rfl rfl rfl hl.1 rfl (Nat.le_of_ble_eq_true rfl) dL_law_791 ⟨by show _ ≤ 1064; omega, by show _ ≤ 11400; omega⟩ (fun r791 u791 H locs q791 hP hD hS => ?_)
  try dsimp only at q791
  have hP : va_P D vwCl ((WO cI cJ ad ao f lo hi T Dv C og) ++ (WM cI am f ah bk bo mv T Dv C th mo)) H := hP
  have hD : va_D (aH s) ((WO cI cJ ad ao f lo hi T Dv C og) ++ (WM cI am f ah bk bo mv T Dv C th mo)) := hD
  refine lv_aload_n hx hb dL_law_794 rfl (lv_at hl 2 rfl) ?_
  refine lv_aload_n hx hb dL_law_795 rfl (lv_at hl 0 rfl) ?_
  refine lv_iload hx hb dL_law_796 (lv_at hl 4 rfl) ?_
  refine c_iconst hx hb dL_law_798 (by decide) (fun v798 i798 => ?_)
  refine c_iadd hx hb dL_law_799 (by omega) (fun v799 i799 => ?_)
  refine c_sld hx hb hX hbl hbA hS (5 * j + 1) (by omega) (by omega) dL_law_800 ?_
  refine c_cvi (As := [.int (xs (5 * j + 1))]) (ci := 2) (q0 := 0) (wr := (WO cI cJ ad ao f lo hi T Dv C og)) (wF := (fun uZ => ((WO cI cJ ad ao f lo hi T Dv C og) ++ (WM cI am f ah bk bo mv T Dv C 0 mo)))) (kX2_count l D cI am f ah bk bo mv T Dv C th mo Tn Dn Cn (xs (5 * j + 1)) hT hDv hC hI) ⟨hx, hb, hml, hown, hts⟩ (cwV 1 hts gL_law_X2_count rfl rfl rfl (by decide +kernel) ⟨Nat.le_of_ble_eq_true rfl, Nat.le_of_ble_eq_true rfl⟩) hK0 hP hD hS hA [17, 18, 19, 20, 21, 22, 23, 24, 25, 26, 27, 28, 29, 30, 31, 32, 33] [0, 1, 2, 3, 4, 5, 6, 7, 8, 9, 10, 11, 12, 13, 14, 15, 16] [0, 1, 2, 3, 4, 5, 6, 7, 8, 9, 10, 11, 12, 13, 14, 15, 16, 17, 18, 19, 20, 21, 22, 23, 24, 25, 26, 27, 28, 29, 30, 31, 32, 33] rfl (by decide) rfl (by decide) (by decide) (by decide) (fun _ => rfl) rfl rfl rfl rfl hl.1 rfl (Nat.le_of_ble_eq_true rfl) dL_law_801 ⟨by show _ ≤ 1064; omega, by show _ ≤ 11400; omega⟩ (fun r801 u801 H locs q801 hP hD hS => ?_)
  try dsimp only at q801
  have hP : va_P D vwCl ((WO cI cJ ad ao f lo hi T Dv C og) ++ (WM cI am f ah bk bo mv T Dv C 0 mo)) H := hP
  have hD : va_D (aH s) ((WO cI cJ ad ao f lo hi T Dv C og) ++ (WM cI am f ah bk bo mv T Dv C 0 mo)) := hD
  refine c_icmp_eq (tgt := 809) hx hb dL_law_804 (by decide) (fun _ => ?_) (fun cn => absurd (CN_uniq q791 q801) cn)
  refine W.widen (k := 34 + (j + 1)) (n := 3172 + 6 * (j + 1)) (by omega) (by omega) ?_
  exact K _ _ _ _ _ _ _ _ _ _ _ 0 mo (Tn) (Dn) (Cn) _ _ _ _ ⟨hI, hT, hDv, hC, hP, hD, hS⟩ hx4 (lv_sub hl [0, 1, 2, 3, 4] rfl)
