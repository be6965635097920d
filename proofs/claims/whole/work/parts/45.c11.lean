set_option maxHeartbeats 4000000 in
set_option maxRecDepth 100000 in
theorem law_11 {p : Program} {l : Launch} {e : Env} {s : State} {m : MethodId} {below : List Frame} {meth : Method} {c : Code} {b L : Nat} {xs : Nat → Int32} {D : va_G} {cI cJ : ClassId} {sa : Nat → Nat} {ad am : Nat → Nat} {ao j : Nat} (cx : Lcx p l s m meth c b L xs D cI cJ sa) (hL : L ≤ 2560) (hj : 5 * j + 5 ≤ L) (K : K809 p l e s m below meth c b D cI cJ ad am ao j)
    (f : Nat → Nat → Int32) (lo hi : Nat → Int32) (T Dv C : Int32) (og : Nat → Int64) (ah bk bo mv : Nat → Int32) (th mo : Int32) (Tn Dn Cn : Nat) (H : Heap) (locs : List Loc) (ls : Array Slot) (x4 : Int32) (hst : Lst s D cI cJ ad am ao f lo hi T Dv C og ah bk bo mv th mo Tn Dn Cn H locs) (hx4 : x4.toInt = 5 * (j : Int)) (hl : lv_has ls 7 (Llv b ad am ao x4)) :
    W p l e room_1 s m #[Value.ref b] below meth c H locs (34 + j) (3172 + 6 * j) (lw_Z below #[Value.ref b] s) (F0 m 594 ls []) := by
  obtain ⟨⟨hx, hb, hr, hml, hown, hts0, hX, hbl, hlocks, hgv⟩, hnst, hts, hK, hth, hnc⟩ := id cx
  obtain ⟨hI, hT, hDv, hC, hP, hD, hS⟩ := hst
  have hown : s.vm.findClass RL = some m.cls := hown
  have hA : ∀ q : Nat, s.heap.size ≤ q → aH s q := fun _ h => h
  have hbA : ¬ aH s b := Nat.not_le.mpr hbl
  have hK0 : va_K D vwCl [(cI, .int)] s := hK.sub [0] rfl
  have hl : lv_has ls 7 [(0, .ref b), (1, .ref (ad 0)), (2, .ref (am 0)), (3, .ref ao), (4, .int x4)] := hl
  refine lv_aload_n hx hb dL_law_594 rfl (lv_at hl 1 rfl) ?_
  refine lv_aload_n hx hb dL_law_595 rfl (lv_at hl 0 rfl) ?_
  refine lv_iload hx hb dL_law_596 (lv_at hl 4 rfl) ?_
  refine c_iconst hx hb dL_law_598 (by decide) (fun v598 i598 => ?_)
  refine c_iadd hx hb dL_law_599 (by omega) (fun v599 i599 => ?_)
  refine c_sld hx hb hX hbl hbA hS (5 * j + 1) (by omega) (by omega) dL_law_600 ?_
  refine lv_aload_n hx hb dL_law_601 rfl (lv_at hl 0 rfl) ?_
  refine lv_iload hx hb dL_law_602 (lv_at hl 4 rfl) ?_
  refine c_iconst hx hb dL_law_604 (by decide) (fun v604 i604 => ?_)
  refine c_iadd hx hb dL_law_605 (by omega) (fun v605 i605 => ?_)
  refine c_sld hx hb hX hbl hbA hS (5 * j + 2) (by omega) (by omega) dL_law_606 ?_
  refine lv_aload_n hx hb dL_law_607 rfl (lv_at hl 0 rfl) ?_
  refine lv_iload hx hb dL_law_608 (lv_at hl 4 rfl) ?_
  refine c_iconst hx hb dL_law_610 (by decide) (fun v610 i610 => ?_)
  refine c_iadd hx hb dL_law_611 (by omega) (fun v611 i611 => ?_)
  refine c_sld hx hb hX hbl hbA hS (5 * j + 3) (by omega) (by omega) dL_law_612 ?_
  refine c_if_eq (tgt := 620) hx hb dL_law_613 (by decide) (fun c613 => ?_) (fun c613 => ?_)
  · skip
    refine c_iconst hx hb dL_law_620 (by decide) (fun v620 i620 => ?_)
    refine lv_aload_n hx hb dL_law_621 rfl (lv_at hl 3 rfl) ?_
    refine c_csl (As := [.ref (ad 0), .int (xs (5 * j + 1)), .int (xs (5 * j + 2)), .int v620, .ref ao]) (wr := (WM cI am f ah bk bo mv T Dv C th mo)) (wF := (fun uZ => ((WO cI cJ ad ao f uZ.1 uZ.2.1 T Dv C uZ.2.2) ++ (WM cI am f ah bk bo mv T Dv C th mo)))) (kL_through l hnst D cI cJ ad sa ao f lo hi T Dv C og Tn Dn Cn (xs (5 * j + 1)) (xs (5 * j + 2)) v620 hT hDv hC hI) ⟨hx, hb, hml, hown, hts⟩ (vx_cwSW 5 hts gL_law_L_through rfl rfl rfl (by decide +kernel) ⟨Nat.le_of_ble_eq_true rfl, Nat.le_of_ble_eq_true rfl⟩) hK hth hnc hP hD hS hA [0, 1, 2, 3, 4, 5, 6, 7, 8, 9, 10, 11, 12, 13, 14, 15, 16] [17, 18, 19, 20, 21, 22, 23, 24, 25, 26, 27, 28, 29, 30, 31, 32, 33] [17, 18, 19, 20, 21, 22, 23, 24, 25, 26, 27, 28, 29, 30, 31, 32, 33, 0, 1, 2, 3, 4, 5, 6, 7, 8, 9, 10, 11, 12, 13, 14, 15, 16] rfl (by decide) rfl (by decide) (by decide) (by decide) (fun _ => rfl) rfl hl.1 rfl (Nat.le_of_ble_eq_true rfl) dL_law_622 ⟨by show _ ≤ 1064; omega, by show _ ≤ 11400; omega⟩ (fun r622 u622 H locs q622 hP hD hS => ?_)
    try dsimp only at q622
    have hP : va_P D vwCl ((WO cI cJ ad ao f u622.1 u622.2.1 T Dv C u622.2.2) ++ (WM cI am f ah bk bo mv T Dv C th mo)) H := hP
    have hD : va_D (aH s) ((WO cI cJ ad ao f u622.1 u622.2.1 T Dv C u622.2.2) ++ (WM cI am f ah bk bo mv T Dv C th mo)) := hD
    refine lv_istore (lv' := [(5, .int r622), (0, .ref b), (1, .ref (ad 0)), (2, .ref (am 0)), (3, .ref ao), (4, .int x4)]) hx hb dL_law_625 hl (by decide) rfl (fun ls hl => ?_)
    refine lv_aload_n hx hb dL_law_627 rfl (lv_at hl 3 rfl) ?_
    refine lv_aload_n hx hb dL_law_628 rfl (lv_at hl 1 rfl) ?_
    refine lv_iload hx hb dL_law_629 (lv_at hl 5 rfl) ?_
    refine c_iconst hx hb dL_law_631 (by decide) (fun v631 i631 => ?_)
    refine c_iadd hx hb dL_law_632 (by omega) (fun v632 i632 => ?_)
    refine c_sld hx hb hX hbl hbA hS (5 * j + 1) (by omega) (by omega) dL_law_633 ?_
    refine lv_aload_n hx hb dL_law_634 rfl (lv_at hl 1 rfl) ?_
    refine lv_iload hx hb dL_law_635 (lv_at hl 5 rfl) ?_
    refine c_iconst hx hb dL_law_637 (by decide) (fun v637 i637 => ?_)
    refine c_iadd hx hb dL_law_638 (by omega) (fun v638 i638 => ?_)
    refine c_sld hx hb hX hbl hbA hS (5 * j + 2) (by omega) (by omega) dL_law_639 ?_
    refine lv_aload_n hx hb dL_law_640 rfl (lv_at hl 1 rfl) ?_
    refine lv_iload hx hb dL_law_641 (lv_at hl 5 rfl) ?_
    refine c_iconst hx hb dL_law_643 (by decide) (fun v643 i643 => ?_)
    refine c_iadd hx hb dL_law_644 (by omega) (fun v644 i644 => ?_)
    refine c_sld hx hb hX hbl hbA hS (5 * j + 3) (by omega) (by omega) dL_law_645 ?_
    refine c_if_eq (tgt := 653) hx hb dL_law_646 (by decide) (fun c646 => ?_) (fun c646 => absurd c646 (by omega))
    refine c_iconst hx hb dL_law_653 (by decide) (fun v653 i653 => ?_)
    refine c_cvi (As := [.int (xs (5 * j + 1)), .int (xs (5 * j + 2)), .int v653]) (ci := 2) (q0 := 0) (wr := (WO cI cJ ad ao f u622.1 u622.2.1 T Dv C u622.2.2)) (wF := (fun uZ => ((WO cI cJ ad ao f u622.1 u622.2.1 T Dv C u622.2.2) ++ (WM cI am f uZ.1 uZ.2.1 uZ.2.2.1 uZ.2.2.2.1 T Dv C uZ.2.2.2.2.1 uZ.2.2.2.2.2)))) (kX2_through l D cI am f ah bk bo mv T Dv C th mo Tn Dn Cn (xs (5 * j + 1)) (xs (5 * j + 2)) v653 hT hDv hC hI) ⟨hx, hb, hml, hown, hts⟩ (cwV 3 hts gL_law_X2_through rfl rfl rfl (by decide +kernel) ⟨Nat.le_of_ble_eq_true rfl, Nat.le_of_ble_eq_true rfl⟩) hK0 hP hD hS hA [17, 18, 19, 20, 21, 22, 23, 24, 25, 26, 27, 28, 29, 30, 31, 32, 33] [0, 1, 2, 3, 4, 5, 6, 7, 8, 9, 10, 11, 12, 13, 14, 15, 16] [0, 1, 2, 3, 4, 5, 6, 7, 8, 9, 10, 11, 12, 13, 14, 15, 16, 17, 18, 19, 20, 21, 22, 23, 24, 25, 26, 27, 28, 29, 30, 31, 32, 33] rfl (by decide) rfl (by decide) (by decide) (by decide) (fun _ => rfl) rfl rfl rfl rfl hl.1 rfl (Nat.le_of_ble_eq_true rfl) dL_law_654 ⟨by show _ ≤ 1064; omega, by show _ ≤ 11400; omega⟩ (fun r654 u654 H locs q654 hP hD hS => ?_)
    try dsimp only at q654
    have hP : va_P D vwCl ((WO cI cJ ad ao f u622.1 u622.2.1 T Dv C u622.2.2) ++ (WM cI am f u654.1 u654.2.1 u654.2.2.1 u654.2.2.2.1 T Dv C u654.2.2.2.2.1 u654.2.2.2.2.2)) H := hP
    have hD : va_D (aH s) ((WO cI cJ ad ao f u622.1 u622.2.1 T Dv C u622.2.2) ++ (WM cI am f u654.1 u654.2.1 u654.2.2.1 u654.2.2.2.1 T Dv C u654.2.2.2.2.1 u654.2.2.2.2.2)) := hD
    refine lv_istore (lv' := [(6, .int r654), (5, .int r622), (0, .ref b), (1, .ref (ad 0)), (2, .ref (am 0)), (3, .ref ao), (4, .int x4)]) hx hb dL_law_657 hl (by decide) rfl (fun ls hl => ?_)
    refine lv_aload_n hx hb dL_law_659 rfl (lv_at hl 4 rfl) ?_
    refine c_cvi (As := []) (ci := 2) (q0 := 0) (wr := (WO cI cJ ad ao f u622.1 u622.2.1 T Dv C u622.2.2)) (wF := (fun uZ => ((WO cI cJ ad ao f u622.1 u622.2.1 T Dv C u622.2.2) ++ (WM cI am f u654.1 u654.2.1 u654.2.2.1 u654.2.2.2.1 T Dv C u654.2.2.2.2.1 u654.2.2.2.2.2)))) (kX2_thrown l D cI am f u654.1 u654.2.1 u654.2.2.1 u654.2.2.2.1 T Dv C u654.2.2.2.2.1 u654.2.2.2.2.2 ) ⟨hx, hb, hml, hown, hts⟩ (cwV 0 hts gL_law_X2_thrown rfl rfl rfl (by decide +kernel) ⟨Nat.le_of_ble_eq_true rfl, Nat.le_of_ble_eq_true rfl⟩) hK0 hP hD hS hA [17, 18, 19, 20, 21, 22, 23, 24, 25, 26, 27, 28, 29, 30, 31, 32, 33] [0, 1, 2, 3, 4, 5, 6, 7, 8, 9, 10, 11, 12, 13, 14, 15, 16] [0, 1, 2, 3, 4, 5, 6, 7, 8, 9, 10, 11, 12, 13, 14, 15, 16, 17, 18, 19, 20, 21, 22, 23, 24, 25, 26, 27, 28, 29, 30, 31, 32, 33] rfl (by decide) rfl (by decide) (by decide) (by decide) (fun _ => rfl) rfl rfl rfl rfl hl.1 rfl (Nat.le_of_ble_eq_true rfl) dL_law_660 ⟨by show _ ≤ 1064; omega, by show _ ≤ 11400; omega⟩ (fun r660 u660 H locs q660 hP hD hS => ?_)
    try dsimp only at q660
    have hP : va_P D vwCl ((WO cI cJ ad ao f u622.1 u622.2.1 T Dv C u622.2.2) ++ (WM cI am f u654.1 u654.2.1 u654.2.2.1 u654.2.2.2.1 T Dv C u654.2.2.2.2.1 u654.2.2.2.2.2)) H := hP
    have hD : va_D (aH s) ((WO cI cJ ad ao f u622.1 u622.2.1 T Dv C u622.2.2) ++ (WM cI am f u654.1 u654.2.1 u654.2.2.1 u654.2.2.2.1 T Dv C u654.2.2.2.2.1 u654.2.2.2.2.2)) := hD
    refine lv_iload hx hb dL_law_663 (lv_at hl 1 rfl) ?_
    obtain ⟨vv, qv, qo⟩ := q622
    rw [i620] at qv
    rw [i653] at q654
    have hq := TH_uniq hI qv q654
    have eth : r660.toInt = r622.toInt := by rw [q660]; exact hq.1.symm
    refine c_icmp_eq (tgt := 670) hx hb dL_law_665 (by decide) (fun _ => ?_) (fun cn => absurd eth cn)
    refine lv_iload hx hb dL_law_670 (lv_at hl 1 rfl) ?_
    refine c_if_ne (tgt := 687) hx hb dL_law_672 (by decide) (fun c672 => ?_) (fun c672 => ?_)
    · skip
      refine lv_goto (tgt := 809) hx hb dL_law_687 (by decide) ?_
      refine W.widen (k := 34 + (j + 1)) (n := 3172 + 6 * (j + 1)) (by omega) (by omega) ?_
      exact K f u622.1 u622.2.1 T Dv C u622.2.2 u654.1 u654.2.1 u654.2.2.1 u654.2.2.2.1 u654.2.2.2.2.1 u654.2.2.2.2.2 (Tn) (Dn) (Cn) _ _ _ _ ⟨hI, hT, hDv, hC, hP, hD, hS⟩ hx4 (lv_sub hl [2, 3, 4, 5, 6] rfl)
    · skip
      refine lv_aload_n hx hb dL_law_675 rfl (lv_at hl 5 rfl) ?_
      refine lv_iconst (v := 0) hx hb dL_law_676 (by decide) ?_
      refine va_lald hx hb hK hP 16 1 rfl rfl (t_in (j := 0) rfl (by decide)) dL_law_677 ?_
      refine lv_iload hx hb dL_law_678 (lv_at hl 0 rfl) ?_
      refine lv_i2l (v := r654.toInt64) hx hb dL_law_680 rfl ?_
      refine W.lcmp hx hb dL_law_681 ?_
      have hz : lg_cmp (u622.2.2 (0 : Int32).toNatClampNeg) r654.toInt64 = 0 := by
        have e1 : u622.2.2 0 = vv.toInt64 := qo c672
        have e2 : vv = r654 := t_inj (hq.2 c672)
        show lg_cmp (u622.2.2 0) _ = 0
        rw [e1, e2]; unfold lg_cmp; simp
      refine c_if_eq (tgt := 687) hx hb dL_law_682 (by decide) (fun _ => ?_) (fun cn => absurd (by rw [hz]; rfl) cn)
      refine lv_goto (tgt := 809) hx hb dL_law_687 (by decide) ?_
      refine W.widen (k := 34 + (j + 1)) (n := 3172 + 6 * (j + 1)) (by omega) (by omega) ?_
      exact K f u622.1 u622.2.1 T Dv C u622.2.2 u654.1 u654.2.1 u654.2.2.1 u654.2.2.2.1 u654.2.2.2.2.1 u654.2.2.2.2.2 (Tn) (Dn) (Cn) _ _ _ _ ⟨hI, hT, hDv, hC, hP, hD, hS⟩ hx4 (lv_sub hl [2, 3, 4, 5, 6] rfl)
  · skip
    refine c_iconst hx hb dL_law_616 (by decide) (fun v616 i616 => ?_)
    refine lv_goto (tgt := 621) hx hb dL_law_617 (by decide) ?_
    refine lv_aload_n hx hb dL_law_621 rfl (lv_at hl 3 rfl) ?_
    refine c_csl (As := [.ref (ad 0), .int (xs (5 * j + 1)), .int (xs (5 * j + 2)), .int v616, .ref ao]) (wr := (WM cI am f ah bk bo mv T Dv C th mo)) (wF := (fun uZ => ((WO cI cJ ad ao f uZ.1 uZ.2.1 T Dv C uZ.2.2) ++ (WM cI am f ah bk bo mv T Dv C th mo)))) (kL_through l hnst D cI cJ ad sa ao f lo hi T Dv C og Tn Dn Cn (xs (5 * j + 1)) (xs (5 * j + 2)) v616 hT hDv hC hI) ⟨hx, hb, hml, hown, hts⟩ (vx_cwSW 5 hts gL_law_L_through rfl rfl rfl (by decide +kernel) ⟨Nat.le_of_ble_eq_true rfl, Nat.le_of_ble_eq_true rfl⟩) hK hth hnc hP hD hS hA [0, 1, 2, 3, 4, 5, 6, 7, 8, 9, 10, 11, 12, 13, 14, 15, 16] [17, 18, 19, 20, 21, 22, 23, 24, 25, 26, 27, 28, 29, 30, 31, 32, 33] [17, 18, 19, 20, 21, 22, 23, 24, 25, 26, 27, 28, 29, 30, 31, 32, 33, 0, 1, 2, 3, 4, 5, 6, 7, 8, 9, 10, 11, 12, 13, 14, 15, 16] rfl (by decide) rfl (by decide) (by decide) (by decide) (fun _ => rfl) rfl hl.1 rfl (Nat.le_of_ble_eq_true rfl) dL_law_622 ⟨by show _ ≤ 1064; omega, by show _ ≤ 11400; omega⟩ (fun r622 u622 H locs q622 hP hD hS => ?_)
    try dsimp only at q622
    have hP : va_P D vwCl ((WO cI cJ ad ao f u622.1 u622.2.1 T Dv C u622.2.2) ++ (WM cI am f ah bk bo mv T Dv C th mo)) H := hP
    have hD : va_D (aH s) ((WO cI cJ ad ao f u622.1 u622.2.1 T Dv C u622.2.2) ++ (WM cI am f ah bk bo mv T Dv C th mo)) := hD
    refine lv_istore (lv' := [(5, .int r622), (0, .ref b), (1, .ref (ad 0)), (2, .ref (am 0)), (3, .ref ao), (4, .int x4)]) hx hb dL_law_625 hl (by decide) rfl (fun ls hl => ?_)
    refine lv_aload_n hx hb dL_law_627 rfl (lv_at hl 3 rfl) ?_
    refine lv_aload_n hx hb dL_law_628 rfl (lv_at hl 1 rfl) ?_
    refine lv_iload hx hb dL_law_629 (lv_at hl 5 rfl) ?_
    refine c_iconst hx hb dL_law_631 (by decide) (fun v631 i631 => ?_)
    refine c_iadd hx hb dL_law_632 (by omega) (fun v632 i632 => ?_)
    refine c_sld hx hb hX hbl hbA hS (5 * j + 1) (by omega) (by omega) dL_law_633 ?_
    refine lv_aload_n hx hb dL_law_634 rfl (lv_at hl 1 rfl) ?_
    refine lv_iload hx hb dL_law_635 (lv_at hl 5 rfl) ?_
    refine c_iconst hx hb dL_law_637 (by decide) (fun v637 i637 => ?_)
    refine c_iadd hx hb dL_law_638 (by omega) (fun v638 i638 => ?_)
    refine c_sld hx hb hX hbl hbA hS (5 * j + 2) (by omega) (by omega) dL_law_639 ?_
    refine lv_aload_n hx hb dL_law_640 rfl (lv_at hl 1 rfl) ?_
    refine lv_iload hx hb dL_law_641 (lv_at hl 5 rfl) ?_
    refine c_iconst hx hb dL_law_643 (by decide) (fun v643 i643 => ?_)
    refine c_iadd hx hb dL_law_644 (by omega) (fun v644 i644 => ?_)
    refine c_sld hx hb hX hbl hbA hS (5 * j + 3) (by omega) (by omega) dL_law_645 ?_
    refine c_if_eq (tgt := 653) hx hb dL_law_646 (by decide) (fun c646 => absurd c646 (by omega)) (fun c646 => ?_)
    refine c_iconst hx hb dL_law_649 (by decide) (fun v649 i649 => ?_)
    refine lv_goto (tgt := 654) hx hb dL_law_650 (by decide) ?_
    refine c_cvi (As := [.int (xs (5 * j + 1)), .int (xs (5 * j + 2)), .int v649]) (ci := 2) (q0 := 0) (wr := (WO cI cJ ad ao f u622.1 u622.2.1 T Dv C u622.2.2)) (wF := (fun uZ => ((WO cI cJ ad ao f u622.1 u622.2.1 T Dv C u622.2.2) ++ (WM cI am f uZ.1 uZ.2.1 uZ.2.2.1 uZ.2.2.2.1 T Dv C uZ.2.2.2.2.1 uZ.2.2.2.2.2)))) (kX2_through l D cI am f ah bk bo mv T Dv C th mo Tn Dn Cn (xs (5 * j + 1)) (xs (5 * j + 2)) v649 hT hDv hC hI) ⟨hx, hb, hml, hown, hts⟩ (cwV 3 hts gL_law_X2_through rfl rfl rfl (by decide +kernel) ⟨Nat.le_of_ble_eq_true rfl, Nat.le_of_ble_eq_true rfl⟩) hK0 hP hD hS hA [17, 18, 19, 20, 21, 22, 23, 24, 25, 26, 27, 28, 29, 30, 31, 32, 33] [0, 1, 2, 3, 4, 5, 6, 7, 8, 9, 10, 11, 12, 13, 14, 15, 16] [0, 1, 2, 3, 4, 5, 6, 7, 8, 9, 10, 11, 12, 13, 14, 15, 16, 17, 18, 19, 20, 21, 22, 23, 24, 25, 26, 27, 28, 29, 30, 31, 32, 33] rfl (by decide) rfl (by decide) (by decide) (by decide) (fun _ => rfl) rfl rfl rfl rfl hl.1 rfl (Nat.le_of_ble_eq_true rfl) dL_law_654 ⟨by show _ ≤ 1064; omega, by show _ ≤ 11400; omega⟩ (fun r654 u654 H locs q654 hP hD hS => ?_)
    try dsimp only at q654
    have hP : va_P D vwCl ((WO cI cJ ad ao f u622.1 u622.2.1 T Dv C u622.2.2) ++ (WM cI am f u654.1 u654.2.1 u654.2.2.1 u654.2.2.2.1 T Dv C u654.2.2.2.2.1 u654.2.2.2.2.2)) H := hP
    have hD : va_D (aH s) ((WO cI cJ ad ao f u622.1 u622.2.1 T Dv C u622.2.2) ++ (WM cI am f u654.1 u654.2.1 u654.2.2.1 u654.2.2.2.1 T Dv C u654.2.2.2.2.1 u654.2.2.2.2.2)) := hD
    refine lv_istore (lv' := [(6, .int r654), (5, .int r622), (0, .ref b), (1, .ref (ad 0)), (2, .ref (am 0)), (3, .ref ao), (4, .int x4)]) hx hb dL_law_657 hl (by decide) rfl (fun ls hl => ?_)
    refine lv_aload_n hx hb dL_law_659 rfl (lv_at hl 4 rfl) ?_
    refine c_cvi (As := []) (ci := 2) (q0 := 0) (wr := (WO cI cJ ad ao f u622.1 u622.2.1 T Dv C u622.2.2)) (wF := (fun uZ => ((WO cI cJ ad ao f u622.1 u622.2.1 T Dv C u622.2.2) ++ (WM cI am f u654.1 u654.2.1 u654.2.2.1 u654.2.2.2.1 T Dv C u654.2.2.2.2.1 u654.2.2.2.2.2)))) (kX2_thrown l D cI am f u654.1 u654.2.1 u654.2.2.1 u654.2.2.2.1 T Dv C u654.2.2.2.2.1 u654.2.2.2.2.2 ) ⟨hx, hb, hml, hown, hts⟩ (cwV 0 hts gL_law_X2_thrown rfl rfl rfl (by decide +kernel) ⟨Nat.le_of_ble_eq_true rfl, Nat.le_of_ble_eq_true rfl⟩) hK0 hP hD hS hA [17, 18, 19, 20, 21, 22, 23, 24, 25, 26, 27, 28, 29, 30, 31, 32, 33] [0, 1, 2, 3, 4, 5, 6, 7, 8, 9, 10, 11, 12, 13, 14, 15, 16] [0, 1, 2, 3, 4, 5, 6, 7, 8, 9, 10, 11, 12, 13, 14, 15, 16, 17, 18, 19, 20, 21, 22, 23, 24, 25, 26, 27, 28, 29, 30, 31, 32, 33] rfl (by decide) rfl (by decide) (by decide) (by decide) (fun _ => rfl) rfl rfl rfl rfl hl.1 rfl (Nat.le_of_ble_eq_true rfl) dL_law_660 ⟨by show _ ≤ 1064; omega, by show _ ≤ 11400; omega⟩ (fun r660 u660 H locs q660 hP hD hS => ?_)
    try dsimp only at q660
    have hP : va_P D vwCl ((WO cI cJ ad ao f u622.1 u622.2.1 T Dv C u622.2.2) ++ (WM cI am f u654.1 u654.2.1 u654.2.2.1 u654.2.2.2.1 T Dv C u654.2.2.2.2.1 u654.2.2.2.2.2)) H := hP
    have hD : va_D (aH s) ((WO cI cJ ad ao f u622.1 u622.2.1 T Dv C u622.2.2) ++ (WM cI am f u654.1 u654.2.1 u654.2.2.1 u654.2.2.2.1 T Dv C u654.2.2.2.2.1 u654.2.2.2.2.2)) := hD
    refine lv_iload hx hb dL_law_663 (lv_at hl 1 rfl) ?_
    obtain ⟨vv, qv, qo⟩ := q622
    rw [i616] at qv
    rw [i649] at q654
    have hq := TH_uniq hI qv q654
    have eth : r660.toInt = r622.toInt := by rw [q660]; exact hq.1.symm
    refine c_icmp_eq (tgt := 670) hx hb dL_law_665 (by decide) (fun _ => ?_) (fun cn => absurd eth cn)
    refine lv_iload hx hb dL_law_670 (lv_at hl 1 rfl) ?_
    refine c_if_ne (tgt := 687) hx hb dL_law_672 (by decide) (fun c672 => ?_) (fun c672 => ?_)
    · skip
      refine lv_goto (tgt := 809) hx hb dL_law_687 (by decide) ?_
      refine W.widen (k := 34 + (j + 1)) (n := 3172 + 6 * (j + 1)) (by omega) (by omega) ?_
      exact K f u622.1 u622.2.1 T Dv C u622.2.2 u654.1 u654.2.1 u654.2.2.1 u654.2.2.2.1 u654.2.2.2.2.1 u654.2.2.2.2.2 (Tn) (Dn) (Cn) _ _ _ _ ⟨hI, hT, hDv, hC, hP, hD, hS⟩ hx4 (lv_sub hl [2, 3, 4, 5, 6] rfl)
    · skip
      refine lv_aload_n hx hb dL_law_675 rfl (lv_at hl 5 rfl) ?_
      refine lv_iconst (v := 0) hx hb dL_law_676 (by decide) ?_
      refine va_lald hx hb hK hP 16 1 rfl rfl (t_in (j := 0) rfl (by decide)) dL_law_677 ?_
      refine lv_iload hx hb dL_law_678 (lv_at hl 0 rfl) ?_
      refine lv_i2l (v := r654.toInt64) hx hb dL_law_680 rfl ?_
      refine W.lcmp hx hb dL_law_681 ?_
      have hz : lg_cmp (u622.2.2 (0 : Int32).toNatClampNeg) r654.toInt64 = 0 := by
        have e1 : u622.2.2 0 = vv.toInt64 := qo c672
        have e2 : vv = r654 := t_inj (hq.2 c672)
        show lg_cmp (u622.2.2 0) _ = 0
        rw [e1, e2]; unfold lg_cmp; simp
      refine c_if_eq (tgt := 687) hx hb dL_law_682 (by decide) (fun _ => ?_) (fun cn => absurd (by rw [hz]; rfl) cn)
      refine lv_goto (tgt := 809) hx hb dL_law_687 (by decide) ?_
      refine W.widen (k := 34 + (j + 1)) (n := 3172 + 6 * (j + 1)) (by omega) (by omega) ?_
      exact K f u622.1 u622.2.1 T Dv C u622.2.2 u654.1 u654.2.1 u654.2.2.1 u654.2.2.2.1 u654.2.2.2.2.1 u654.2.2.2.2.2 (Tn) (Dn) (Cn) _ _ _ _ ⟨hI, hT, hDv, hC, hP, hD, hS⟩ hx4 (lv_sub hl [2, 3, 4, 5, 6] rfl)
