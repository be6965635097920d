set_option maxHeartbeats 4000000 in
set_option maxRecDepth 100000 in
theorem law_14 {p : Program} {l : Launch} {e : Env} {s : State} {m : MethodId} {below : List Frame} {meth : Method} {c : Code} {b L : Nat} {xs : Nat → Int32} {D : va_G} {cI cJ : ClassId} {sa : Nat → Nat} {ad am : Nat → Nat} {ao j : Nat} (cx : Lcx p l s m meth c b L xs D cI cJ sa) (hL : L ≤ 2560) (hj : 5 * j + 5 ≤ L) (K : K809 p l e s m below meth c b D cI cJ ad am ao j)
    (f : Nat → Nat → Int32) (lo hi : Nat → Int32) (T Dv C : Int32) (og : Nat → Int64) (ah bk bo mv : Nat → Int32) (th mo : Int32) (Tn Dn Cn : Nat) (H : Heap) (locs : List Loc) (ls : Array Slot) (x4 : Int32) (hst : Lst s D cI cJ ad am ao f lo hi T Dv C og ah bk bo mv th mo Tn Dn Cn H locs) (hx4 : x4.toInt = 5 * (j : Int)) (hl : lv_has ls 7 (Llv b ad am ao x4)) :
    W p l e room_1 s m #[Value.ref b] below meth c H locs (34 + j) (3172 + 6 * j) (lw_Z below #[Value.ref b] s) (F0 m 716 ls []) := by
  obtain ⟨⟨hx, hb, hr, hml, hown, hts0, hX, hbl, hlocks, hgv⟩, hnst, hts, hK, hth, hnc⟩ := id cx
  obtain ⟨hI, hT, hDv, hC, hP, hD, hS⟩ := hst
  have hown : s.vm.findClass RL = some m.cls := hown
  have hA : ∀ q : Nat, s.heap.size ≤ q → aH s q := fun _ h => h
  have hbA : ¬ aH s b := Nat.not_le.mpr hbl
  have hK0 : va_K D vwCl [(cI, .int)] s := hK.sub [0] rfl
  have hl : lv_has ls 7 [(0, .ref b), (1, .ref (ad 0)), (2, .ref (am 0)), (3, .ref ao), (4, .int x4)] := hl
  refine lv_aload_n hx hb dL_law_716 rfl (lv_at hl 1 rfl) ?_
  refine lv_aload_n hx hb dL_law_717 rfl (lv_at hl 0 rfl) ?_
  refine lv_iload hx hb dL_law_718 (lv_at hl 4 rfl) ?_
  refine c_iconst hx hb dL_law_720 (by decide) (fun v720 i720 => ?_)
  refine c_iadd hx hb dL_law_721 (by omega) (fun v721 i721 => ?_)
  refine c_sld hx hb hX hbl hbA hS (5 * j + 1) (by omega) (by omega) dL_law_722 ?_
  refine lv_aload_n hx hb dL_law_723 rfl (lv_at hl 0 rfl) ?_
  refine lv_iload hx hb dL_law_724 (lv_at hl 4 rfl) ?_
  refine c_iconst hx hb dL_law_726 (by decide) (fun v726 i726 => ?_)
  refine c_iadd hx hb dL_law_727 (by omega) (fun v727 i727 => ?_)
  refine c_sld hx hb hX hbl hbA hS (5 * j + 2) (by omega) (by omega) dL_law_728 ?_
  refine lv_aload_n hx hb dL_law_729 rfl (lv_at hl 3 rfl) ?_
  refine c_csl (As := [.ref (ad 0), .int (xs (5 * j + 1)), .int (xs (5 * j + 2)), .ref ao]) (wr := (WM cI am f ah bk bo mv T Dv C th mo)) (wF := (fun uZ => ((WO cI cJ ad ao f lo hi T Dv C uZ) ++ (WM cI am f ah bk bo mv T Dv C th mo)))) (kL_look l hnst D cI cJ ad sa ao f lo hi T Dv C og Tn Dn Cn (xs (5 * j + 1)) (xs (5 * j + 2)) hT hDv hC hI) ⟨hx, hb, hml, hown, hts⟩ (vx_cwSW 4 hts gL_law_L_look rfl rfl rfl (by decide +kernel) ⟨Nat.le_of_ble_eq_true rfl, Nat.le_of_ble_eq_true rfl⟩) hK hth hnc hP hD hS hA [0, 1, 2, 3, 4, 5, 6, 7, 8, 9, 10, 11, 12, 13, 14, 15, 16] [17, 18, 19, 20, 21, 22, 23, 24, 25, 26, 27, 28, 29, 30, 31, 32, 33] [17, 18, 19, 20, 21, 22, 23, 24, 25, 26, 27, 28, 29, 30, 31, 32, 33, 0, 1, 2, 3, 4, 5, 6, 7, 8, 9, 10, 11, 12, 13, 14, 15, 16] rfl (by decide) rfl (by decide) (by decide) (by decide) (fun _ => rfl) rfl hl.1 rfl (Nat.le_of_ble_eq_true rfl) dL_law_730 ⟨by show _ ≤ 1064; omega, by show _ ≤ 11400; omega⟩ (fun r730 u730 H locs q730 hP hD hS => ?_)
  try dsimp only at q730
  have hP : va_P D vwCl ((WO cI cJ ad ao f lo hi T Dv C u730) ++ (WM cI am f ah bk bo mv T Dv C th mo)) H := hP
  have hD : va_D (aH s) ((WO cI cJ ad ao f lo hi T Dv C u730) ++ (WM cI am f ah bk bo mv T Dv C th mo)) := hD
  refine lv_istore (lv' := [(5, .int r730), (0, .ref b), (1, .ref (ad 0)), (2, .ref (am 0)), (3, .ref ao), (4, .int x4)]) hx hb dL_law_733 hl (by decide) rfl (fun ls hl => ?_)
  refine lv_aload_n hx hb dL_law_735 rfl (lv_at hl 3 rfl) ?_
  refine lv_aload_n hx hb dL_law_736 rfl (lv_at hl 1 rfl) ?_
  refine lv_iload hx hb dL_law_737 (lv_at hl 5 rfl) ?_
  refine c_iconst hx hb dL_law_739 (by decide) (fun v739 i739 => ?_)
  refine c_iadd hx hb dL_law_740 (by omega) (fun v740 i740 => ?_)
  refine c_sld hx hb hX hbl hbA hS (5 * j + 1) (by omega) (by omega) dL_law_741 ?_
  refine lv_aload_n hx hb dL_law_742 rfl (lv_at hl 1 rfl) ?_
  refine lv_iload hx hb dL_law_743 (lv_at hl 5 rfl) ?_
  refine c_iconst hx hb dL_law_745 (by decide) (fun v745 i745 => ?_)
  refine c_iadd hx hb dL_law_746 (by omega) (fun v746 i746 => ?_)
  refine c_sld hx hb hX hbl hbA hS (5 * j + 2) (by omega) (by omega) dL_law_747 ?_
  refine c_cvi (As := [.int (xs (5 * j + 1)), .int (xs (5 * j + 2))]) (ci := 2) (q0 := 0) (wr := (WO cI cJ ad ao f lo hi T Dv C u730)) (wF := (fun uZ => ((WO cI cJ ad ao f lo hi T Dv C u730) ++ (WM cI am f uZ.1 uZ.2.1 uZ.2.2.1 uZ.2.2.2.1 T Dv C uZ.2.2.2.2.1 uZ.2.2.2.2.2)))) (kX2_look l D cI am f ah bk bo mv T Dv C th mo Tn Dn Cn (xs (5 * j + 1)) (xs (5 * j + 2)) hT hDv hC hI) ⟨hx, hb, hml, hown, hts⟩ (cwV 2 hts gL_law_X2_look rfl rfl rfl (by decide +kernel) ⟨Nat.le_of_ble_eq_true rfl, Nat.le_of_ble_eq_true rfl⟩) hK0 hP hD hS hA [17, 18, 19, 20, 21, 22, 23, 24, 25, 26, 27, 28, 29, 30, 31, 32, 33] [0, 1, 2, 3, 4, 5, 6, 7, 8, 9, 10, 11, 12, 13, 14, 15, 16] [0, 1, 2, 3, 4, 5, 6, 7, 8, 9, 10, 11, 12, 13, 14, 15, 16, 17, 18, 19, 20, 21, 22, 23, 24, 25, 26, 27, 28, 29, 30, 31, 32, 33] rfl (by decide) rfl (by decide) (by decide) (by decide) (fun _ => rfl) rfl rfl rfl rfl hl.1 rfl (Nat.le_of_ble_eq_true rfl) dL_law_748 ⟨by show _ ≤ 1064; omega, by show _ ≤ 11400; omega⟩ (fun r748 u748 H locs q748 hP hD hS => ?_)
  try dsimp only at q748
  have hP : va_P D vwCl ((WO cI cJ ad ao f lo hi T Dv C u730) ++ (WM cI am f u748.1 u748.2.1 u748.2.2.1 u748.2.2.2.1 T Dv C u748.2.2.2.2.1 u748.2.2.2.2.2)) H := hP
  have hD : va_D (aH s) ((WO cI cJ ad ao f lo hi T Dv C u730) ++ (WM cI am f u748.1 u748.2.1 u748.2.2.1 u748.2.2.2.1 T Dv C u748.2.2.2.2.1 u748.2.2.2.2.2)) := hD
  refine lv_istore (lv' := [(6, .int r748), (5, .int r730), (0, .ref b), (1, .ref (ad 0)), (2, .ref (am 0)), (3, .ref ao), (4, .int x4)]) hx hb dL_law_751 hl (by decide) rfl (fun ls hl => ?_)
  refine lv_aload_n hx hb dL_law_753 rfl (lv_at hl 4 rfl) ?_
  refine c_cvi (As := []) (ci := 2) (q0 := 0) (wr := (WO cI cJ ad ao f lo hi T Dv C u730)) (wF := (fun uZ => ((WO cI cJ ad ao f lo hi T Dv C u730) ++ (WM cI am f u748.1 u748.2.1 u748.2.2.1 u748.2.2.2.1 T Dv C u748.2.2.2.2.1 u748.2.2.2.2.2)))) (kX2_thrown l D cI am f u748.1 u748.2.1 u748.2.2.1 u748.2.2.2.1 T Dv C u748.2.2.2.2.1 u748.2.2.2.2.2 ) ⟨hx, hb, hml, hown, hts⟩ (cwV 0 hts gL_law_X2_thrown rfl rfl rfl (by decide +kernel) ⟨Nat.le_of_ble_eq_true rfl, Nat.le_of_ble_eq_true rfl⟩) hK0 hP hD hS hA [17, 18, 19, 20, 21, 22, 23, 24, 25, 26, 27, 28, 29, 30, 31, 32, 33] [0, 1, 2, 3, 4, 5, 6, 7, 8, 9, 10, 11, 12, 13, 14, 15, 16] [0, 1, 2, 3, 4, 5, 6, 7, 8, 9, 10, 11, 12, 13, 14, 15, 16, 17, 18, 19, 20, 21, 22, 23, 24, 25, 26, 27, 28, 29, 30, 31, 32, 33] rfl (by decide) rfl (by decide) (by decide) (by decide) (fun _ => rfl) rfl rfl rfl rfl hl.1 rfl (Nat.le_of_ble_eq_true rfl) dL_law_754 ⟨by show _ ≤ 1064; omega, by show _ ≤ 11400; omega⟩ (fun r754 u754 H locs q754 hP hD hS => ?_)
  try dsimp only at q754
  have hP : va_P D vwCl ((WO cI cJ ad ao f lo hi T Dv C u730) ++ (WM cI am f u748.1 u748.2.1 u748.2.2.1 u748.2.2.2.1 T Dv C u748.2.2.2.2.1 u748.2.2.2.2.2)) H := hP
  have hD : va_D (aH s) ((WO cI cJ ad ao f lo hi T Dv C u730) ++ (WM cI am f u748.1 u748.2.1 u748.2.2.1 u748.2.2.2.1 T Dv C u748.2.2.2.2.1 u748.2.2.2.2.2)) := hD
  refine lv_iload hx hb dL_law_757 (lv_at hl 1 rfl) ?_
  obtain ⟨vv, qv, qo⟩ := q730
  have hq := LK_uniq qv q748
  have eth : r754.toInt = r730.toInt := by rw [q754]; exact hq.1.symm
  refine c_icmp_eq (tgt := 764) hx hb dL_law_759 (by decide) (fun _ => ?_) (fun cn => absurd eth cn)
  refine lv_iload hx hb dL_law_764 (lv_at hl 1 rfl) ?_
  refine c_if_ne (tgt := 781) hx hb dL_law_766 (by decide) (fun c766 => ?_) (fun c766 => ?_)
  · skip
    refine lv_goto (tgt := 809) hx hb dL_law_781 (by decide) ?_
    refine W.widen (k := 34 + (j + 1)) (n := 3172 + 6 * (j + 1)) (by omega) (by omega) ?_
    exact K f lo hi T Dv C u730 u748.1 u748.2.1 u748.2.2.1 u748.2.2.2.1 u748.2.2.2.2.1 u748.2.2.2.2.2 (Tn) (Dn) (Cn) _ _ _ _ ⟨hI, hT, hDv, hC, hP, hD, hS⟩ hx4 (lv_sub hl [2, 3, 4, 5, 6] rfl)
  · skip
    refine lv_aload_n hx hb dL_law_769 rfl (lv_at hl 5 rfl) ?_
    refine lv_iconst (v := 0) hx hb dL_law_770 (by decide) ?_
    refine va_lald hx hb hK hP 16 1 rfl rfl (t_in (j := 0) rfl (by decide)) dL_law_771 ?_
    refine lv_iload hx hb dL_law_772 (lv_at hl 0 rfl) ?_
    refine lv_i2l (v := r748.toInt64) hx hb dL_law_774 rfl ?_
    refine W.lcmp hx hb dL_law_775 ?_
    have hz : lg_cmp (u730 (0 : Int32).toNatClampNeg) r748.toInt64 = 0 := by
      have e1 : u730 0 = vv.toInt64 := qo c766
      have e2 : vv = r748 := t_inj (hq.2 c766)
      show lg_cmp (u730 0) _ = 0
      rw [e1, e2]; unfold lg_cmp; simp
    refine c_if_eq (tgt := 781) hx hb dL_law_776 (by decide) (fun _ => ?_) (fun cn => absurd (by rw [hz]; rfl) cn)
    refine lv_goto (tgt := 809) hx hb dL_law_781 (by decide) ?_
    refine W.widen (k := 34 + (j + 1)) (n := 3172 + 6 * (j + 1)) (by omega) (by omega) ?_
    exact K f lo hi T Dv C u730 u748.1 u748.2.1 u748.2.2.1 u748.2.2.2.1 u748.2.2.2.2.1 u748.2.2.2.2.2 (Tn) (Dn) (Cn) _ _ _ _ ⟨hI, hT, hDv, hC, hP, hD, hS⟩ hx4 (lv_sub hl [2, 3, 4, 5, 6] rfl)
