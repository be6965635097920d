set_option maxHeartbeats 4000000 in
set_option maxRecDepth 100000 in
theorem law_6 {p : Program} {l : Launch} {e : Env} {s : State} {m : MethodId} {below : List Frame} {meth : Method} {c : Code} {b L : Nat} {xs : Nat → Int32} {D : va_G} {cI cJ : ClassId} {sa : Nat → Nat} {ad am : Nat → Nat} {ao j : Nat} (cx : Lcx p l s m meth c b L xs D cI cJ sa) (hL : L ≤ 2560) (hj : 5 * j + 5 ≤ L) (K : K809 p l e s m below meth c b D cI cJ ad am ao j)
    (f : Nat → Nat → Int32) (lo hi : Nat → Int32) (T Dv C : Int32) (og : Nat → Int64) (ah bk bo mv : Nat → Int32) (th mo : Int32) (Tn Dn Cn : Nat) (H : Heap) (locs : List Loc) (ls : Array Slot) (x4 : Int32) (hst : Lst s D cI cJ ad am ao f lo hi T Dv C og ah bk bo mv th mo Tn Dn Cn H locs) (hx4 : x4.toInt = 5 * (j : Int)) (hl : lv_has ls 7 (Llv b ad am ao x4)) :
    W p l e room_1 s m #[Value.ref b] below meth c H locs (34 + j) (3172 + 6 * j) (lw_Z below #[Value.ref b] s) (F0 m 422 ls []) := by
  obtain ⟨⟨hx, hb, hr, hml, hown, hts0, hX, hbl, hlocks, hgv⟩, hnst, hts, hK, hth, hnc⟩ := id cx
  obtain ⟨hI, hT, hDv, hC, hP, hD, hS⟩ := hst
  have hown : s.vm.findClass RL = some m.cls := hown
  have hA : ∀ q : Nat, s.heap.size ≤ q → aH s q := fun _ h => h
  have hbA : ¬ aH s b := Nat.not_le.mpr hbl
  have hK0 : va_K D vwCl [(cI, .int)] s := hK.sub [0] rfl
  have hl : lv_has ls 7 [(0, .ref b), (1, .ref (ad 0)), (2, .ref (am 0)), (3, .ref ao), (4, .int x4)] := hl
  refine lv_aload_n hx hb dL_law_422 rfl (lv_at hl 1 rfl) ?_
  refine c_cvi (As := []) (ci := 1) (q0 := 0) (wr := ([(ao, .inl (cJ, 1, .inr (.inl og)))] ++ (WM cI am f ah bk bo mv T Dv C th mo))) (wF := (fun uZ => ((WO cI cJ ad ao f lo hi T Dv uZ og) ++ (WM cI am f ah bk bo mv T Dv C th mo)))) (kX1_uncheck l D cI ad f lo hi T Dv C Tn Dn Cn hT hDv hC hI) ⟨hx, hb, hml, hown, hts⟩ (cwV 0 hts gL_law_X1_uncheck rfl rfl rfl (by decide +kernel) ⟨Nat.le_of_ble_eq_true rfl, Nat.le_of_ble_eq_true rfl⟩) hK0 hP hD hS hA [0, 1, 2, 3, 4, 5, 6, 7, 8, 9, 10, 11, 12, 13, 14, 15] [16, 17, 18, 19, 20, 21, 22, 23, 24, 25, 26, 27, 28, 29, 30, 31, 32, 33] [18, 19, 20, 21, 22, 23, 24, 25, 26, 27, 28, 29, 30, 31, 32, 33, 0, 1, 2, 3, 4, 5, 6, 7, 8, 9, 10, 11, 12, 13, 14, 15, 16, 17] rfl (by decide) rfl (by decide) (by decide) (by decide) (fun _ => rfl) rfl rfl rfl rfl hl.1 rfl (Nat.le_of_ble_eq_true rfl) dL_law_423 ⟨by show _ ≤ 1064; omega, by show _ ≤ 11400; omega⟩ (fun r423 u423 H locs q423 hP hD hS => ?_)
  try dsimp only at q423
  have hP : va_P D vwCl ((WO cI cJ ad ao f lo hi T Dv u423 og) ++ (WM cI am f ah bk bo mv T Dv C th mo)) H := hP
  have hD : va_D (aH s) ((WO cI cJ ad ao f lo hi T Dv u423 og) ++ (WM cI am f ah bk bo mv T Dv C th mo)) := hD
  refine lv_aload_n hx hb dL_law_426 rfl (lv_at hl 2 rfl) ?_
  refine c_cvi (As := []) (ci := 2) (q0 := 0) (wr := (WO cI cJ ad ao f lo hi T Dv u423 og)) (wF := (fun uZ => ((WO cI cJ ad ao f lo hi T Dv u423 og) ++ (WM cI am f ah bk bo mv T Dv uZ 0 mo)))) (kX2_uncheck l D cI am f ah bk bo mv T Dv C th mo Tn Dn Cn hT hDv hC hI) ⟨hx, hb, hml, hown, hts⟩ (cwV 0 hts gL_law_X2_uncheck rfl rfl rfl (by decide +kernel) ⟨Nat.le_of_ble_eq_true rfl, Nat.le_of_ble_eq_true rfl⟩) hK0 hP hD hS hA [17, 18, 19, 20, 21, 22, 23, 24, 25, 26, 27, 28, 29, 30, 31, 32, 33] [0, 1, 2, 3, 4, 5, 6, 7, 8, 9, 10, 11, 12, 13, 14, 15, 16] [0, 1, 2, 3, 4, 5, 6, 7, 8, 9, 10, 11, 12, 13, 14, 15, 16, 17, 18, 19, 20, 21, 22, 23, 24, 25, 26, 27, 28, 29, 30, 31, 32, 33] rfl (by decide) rfl (by decide) (by decide) (by decide) (fun _ => rfl) rfl rfl rfl rfl hl.1 rfl (Nat.le_of_ble_eq_true rfl) dL_law_427 ⟨by show _ ≤ 1064; omega, by show _ ≤ 11400; omega⟩ (fun r427 u427 H locs q427 hP hD hS => ?_)
  try dsimp only at q427
  have hP : va_P D vwCl ((WO cI cJ ad ao f lo hi T Dv u423 og) ++ (WM cI am f ah bk bo mv T Dv u427 0 mo)) H := hP
  have hD : va_D (aH s) ((WO cI cJ ad ao f lo hi T Dv u423 og) ++ (WM cI am f ah bk bo mv T Dv u427 0 mo)) := hD
  rcases q423 with ⟨a1, a2, a3⟩ | ⟨a1, a2, a3⟩
  · skip
    rcases q427 with ⟨b1, b2, b3⟩ | ⟨b1, b2, b3⟩
    · skip
      obtain ⟨z, ez⟩ : ∃ z, z = u423 := ⟨_, rfl⟩
      have ez2 : u427 = z := t_inj (by rw [ez]; omega)
      rw [← ez, ez2] at hP hD
      refine c_icmp_eq (tgt := 809) hx hb dL_law_430 (by decide) (fun _ => ?_) (fun cn => absurd (a2.trans b2.symm) cn)
      refine W.widen (k := 34 + (j + 1)) (n := 3172 + 6 * (j + 1)) (by omega) (by omega) ?_
      exact K f lo hi T Dv z og ah bk bo mv 0 mo (Tn) (Dn) (Cn - 1) _ _ _ _ ⟨Inv_unc hI, hT, hDv, (by rw [ez]; omega), hP, hD, hS⟩ hx4 (lv_sub hl [0, 1, 2, 3, 4] rfl)
    · skip
      omega
  · skip
    rcases q427 with ⟨b1, b2, b3⟩ | ⟨b1, b2, b3⟩
    · skip
      omega
    · skip
      have hPz := hP
      have hDz := hD
      subst a3
      subst b3
      refine c_icmp_eq (tgt := 809) hx hb dL_law_430 (by decide) (fun _ => ?_) (fun cn => absurd (a2.trans b2.symm) cn)
      refine W.widen (k := 34 + (j + 1)) (n := 3172 + 6 * (j + 1)) (by omega) (by omega) ?_
      exact K _ _ _ _ _ _ _ _ _ _ _ 0 mo (Tn) (Dn) (Cn) _ _ _ _ ⟨hI, hT, hDv, hC, hPz, hDz, hS⟩ hx4 (lv_sub hl [0, 1, 2, 3, 4] rfl)
