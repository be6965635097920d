set_option maxHeartbeats 4000000 in
set_option maxRecDepth 100000 in
theorem law_1 {p : Program} {l : Launch} {e : Env} {s : State} {m : MethodId} {below : List Frame} {meth : Method} {c : Code} {b L : Nat} {xs : Nat → Int32} {D : va_G} {cI cJ : ClassId} {sa : Nat → Nat} {ad am : Nat → Nat} {ao j : Nat} (cx : Lcx p l s m meth c b L xs D cI cJ sa) (hL : L ≤ 2560) (hj : 5 * j + 5 ≤ L) (K : K809 p l e s m below meth c b D cI cJ ad am ao j)
    (f : Nat → Nat → Int32) (lo hi : Nat → Int32) (T Dv C : Int32) (og : Nat → Int64) (ah bk bo mv : Nat → Int32) (th mo : Int32) (Tn Dn Cn : Nat) (H : Heap) (locs : List Loc) (ls : Array Slot) (x4 : Int32) (hst : Lst s D cI cJ ad am ao f lo hi T Dv C og ah bk bo mv th mo Tn Dn Cn H locs) (hx4 : x4.toInt = 5 * (j : Int)) (hl : lv_has ls 7 (Llv b ad am ao x4)) :
    W p l e room_1 s m #[Value.ref b] below meth c H locs (34 + j) (3172 + 6 * j) (lw_Z below #[Value.ref b] s) (F0 m 141 ls []) := by
  obtain ⟨⟨hx, hb, hr, hml, hown, hts0, hX, hbl, hlocks, hgv⟩, hnst, hts, hK, hth, hnc⟩ := id cx
  obtain ⟨hI, hT, hDv, hC, hP, hD, hS⟩ := hst
  have hown : s.vm.findClass RL = some m.cls := hown
  have hA : ∀ q : Nat, s.heap.size ≤ q → aH s q := fun _ h => h
  have hbA : ¬ aH s b := Nat.not_le.mpr hbl
  have hK0 : va_K D vwCl [(cI, .int)] s := hK.sub [0] rfl
  have hl : lv_has ls 7 [(0, .ref b), (1, .ref (ad 0)), (2, .ref (am 0)), (3, .ref ao), (4, .int x4)] := hl
  refine lv_aload_n hx hb dL_law_141 rfl (lv_at hl 1 rfl) ?_
  refine lv_aload_n hx hb dL_law_142 rfl (lv_at hl 0 rfl) ?_
  refine lv_iload hx hb dL_law_143 (lv_at hl 4 rfl) ?_
  refine c_iconst hx hb dL_law_145 (by decide) (fun v145 i145 => ?_)
  refine c_iadd hx hb dL_law_146 (by omega) (fun v146 i146 => ?_)
  refine c_sld hx hb hX hbl hbA hS (5 * j + 1) (by omega) (by omega) dL_law_147 ?_
  refine lv_aload_n hx hb dL_law_148 rfl (lv_at hl 0 rfl) ?_
  refine lv_iload hx hb dL_law_149 (lv_at hl 4 rfl) ?_
  refine c_iconst hx hb dL_law_151 (by decide) (fun v151 i151 => ?_)
  refine c_iadd hx hb dL_law_152 (by omega) (fun v152 i152 => ?_)
  refine c_sld hx hb hX hbl hbA hS (5 * j + 2) (by omega) (by omega) dL_law_153 ?_
  refine lv_aload_n hx hb dL_law_154 rfl (lv_at hl 0 rfl) ?_
  refine lv_iload hx hb dL_law_155 (lv_at hl 4 rfl) ?_
  refine c_iconst hx hb dL_law_157 (by decide) (fun v157 i157 => ?_)
  refine c_iadd hx hb dL_law_158 (by omega) (fun v158 i158 => ?_)
  refine c_sld hx hb hX hbl hbA hS (5 * j + 3) (by omega) (by omega) dL_law_159 ?_
  refine lv_aload_n hx hb dL_law_160 rfl (lv_at hl 0 rfl) ?_
  refine lv_iload hx hb dL_law_161 (lv_at hl 4 rfl) ?_
  refine c_iconst hx hb dL_law_163 (by decide) (fun v163 i163 => ?_)
  refine c_iadd hx hb dL_law_164 (by omega) (fun v164 i164 => ?_)
  refine c_sld hx hb hX hbl hbA hS (5 * j + 4) (by omega) (by omega) dL_law_165 ?_
  refine c_cvi (As := [.int (xs (5 * j + 1)), .int (xs (5 * j + 2)), .int (xs (5 * j + 3)), .int (xs (5 * j + 4))]) (ci := 1) (q0 := 0) (wr := ([(ao, .inl (cJ, 1, .inr (.inl og)))] ++ (WM cI am f ah bk bo mv T Dv C th mo))) (wF := (fun uZ => ((WO cI cJ ad ao uZ.1 lo hi T uZ.2 C og) ++ (WM cI am f ah bk bo mv T Dv C th mo)))) (kX1_door l D cI ad f lo hi T Dv C Tn Dn Cn (xs (5 * j + 1)) (xs (5 * j + 2)) (xs (5 * j + 3)) (xs (5 * j + 4)) hT hDv hC hI) ⟨hx, hb, hml, hown, hts⟩ (cwV 4 hts gL_law_X1_door rfl rfl rfl (by decide +kernel) ⟨Nat.le_of_ble_eq_true rfl, Nat.le_of_ble_eq_true rfl⟩) hK0 hP hD hS hA [0, 1, 2, 3, 4, 5, 6, 7, 8, 9, 10, 11, 12, 13, 14, 15] [16, 17, 18, 19, 20, 21, 22, 23, 24, 25, 26, 27, 28, 29, 30, 31, 32, 33] [18, 19, 20, 21, 22, 23, 24, 25, 26, 27, 28, 29, 30, 31, 32, 33, 0, 1, 2, 3, 4, 5, 6, 7, 8, 9, 10, 11, 12, 13, 14, 15, 16, 17] rfl (by decide) rfl (by decide) (by decide) (by decide) (fun _ => rfl) rfl rfl rfl rfl hl.1 rfl (Nat.le_of_ble_eq_true rfl) dL_law_166 ⟨by show _ ≤ 1064; omega, by show _ ≤ 11400; omega⟩ (fun r166 u166 H locs q166 hP hD hS => ?_)
  try dsimp only at q166
  have hP : va_P D vwCl ((WO cI cJ ad ao u166.1 lo hi T u166.2 C og) ++ (WM cI am f ah bk bo mv T Dv C th mo)) H := hP
  have hD : va_D (aH s) ((WO cI cJ ad ao u166.1 lo hi T u166.2 C og) ++ (WM cI am f ah bk bo mv T Dv C th mo)) := hD
  refine lv_aload_n hx hb dL_law_169 rfl (lv_at hl 2 rfl) ?_
  refine lv_aload_n hx hb dL_law_170 rfl (lv_at hl 0 rfl) ?_
  refine lv_iload hx hb dL_law_171 (lv_at hl 4 rfl) ?_
  refine c_iconst hx hb dL_law_173 (by decide) (fun v173 i173 => ?_)
  refine c_iadd hx hb dL_law_174 (by omega) (fun v174 i174 => ?_)
  refine c_sld hx hb hX hbl hbA hS (5 * j + 1) (by omega) (by omega) dL_law_175 ?_
  refine lv_aload_n hx hb dL_law_176 rfl (lv_at hl 0 rfl) ?_
  refine lv_iload hx hb dL_law_177 (lv_at hl 4 rfl) ?_
  refine c_iconst hx hb dL_law_179 (by decide) (fun v179 i179 => ?_)
  refine c_iadd hx hb dL_law_180 (by omega) (fun v180 i180 => ?_)
  refine c_sld hx hb hX hbl hbA hS (5 * j + 2) (by omega) (by omega) dL_law_181 ?_
  refine lv_aload_n hx hb dL_law_182 rfl (lv_at hl 0 rfl) ?_
  refine lv_iload hx hb dL_law_183 (lv_at hl 4 rfl) ?_
  refine c_iconst hx hb dL_law_185 (by decide) (fun v185 i185 => ?_)
  refine c_iadd hx hb dL_law_186 (by omega) (fun v186 i186 => ?_)
  refine c_sld hx hb hX hbl hbA hS (5 * j + 3) (by omega) (by omega) dL_law_187 ?_
  refine lv_aload_n hx hb dL_law_188 rfl (lv_at hl 0 rfl) ?_
  refine lv_iload hx hb dL_law_189 (lv_at hl 4 rfl) ?_
  refine c_iconst hx hb dL_law_191 (by decide) (fun v191 i191 => ?_)
  refine c_iadd hx hb dL_law_192 (by omega) (fun v192 i192 => ?_)
  refine c_sld hx hb hX hbl hbA hS (5 * j + 4) (by omega) (by omega) dL_law_193 ?_
  refine c_cvi (As := [.int (xs (5 * j + 1)), .int (xs (5 * j + 2)), .int (xs (5 * j + 3)), .int (xs (5 * j + 4))]) (ci := 2) (q0 := 0) (wr := (WO cI cJ ad ao u166.1 lo hi T u166.2 C og)) (wF := (fun uZ => ((WO cI cJ ad ao u166.1 lo hi T u166.2 C og) ++ (WM cI am uZ.1 ah bk bo mv T uZ.2 C 0 mo)))) (kX2_door l D cI am f ah bk bo mv T Dv C th mo Tn Dn Cn (xs (5 * j + 1)) (xs (5 * j + 2)) (xs (5 * j + 3)) (xs (5 * j + 4)) hT hDv hC hI) ⟨hx, hb, hml, hown, hts⟩ (cwV 4 hts gL_law_X2_door rfl rfl rfl (by decide +kernel) ⟨Nat.le_of_ble_eq_true rfl, Nat.le_of_ble_eq_true rfl⟩) hK0 hP hD hS hA [17, 18, 19, 20, 21, 22, 23, 24, 25, 26, 27, 28, 29, 30, 31, 32, 33] [0, 1, 2, 3, 4, 5, 6, 7, 8, 9, 10, 11, 12, 13, 14, 15, 16] [0, 1, 2, 3, 4, 5, 6, 7, 8, 9, 10, 11, 12, 13, 14, 15, 16, 17, 18, 19, 20, 21, 22, 23, 24, 25, 26, 27, 28, 29, 30, 31, 32, 33] rfl (by decide) rfl (by decide) (by decide) (by decide) (fun _ => rfl) rfl rfl rfl rfl hl.1 rfl (Nat.le_of_ble_eq_true rfl) dL_law_194 ⟨by show _ ≤ 1064; omega, by show _ ≤ 11400; omega⟩ (fun r194 u194 H locs q194 hP hD hS => ?_)
  try dsimp only at q194
  have hP : va_P D vwCl ((WO cI cJ ad ao u166.1 lo hi T u166.2 C og) ++ (WM cI am u194.1 ah bk bo mv T u194.2 C 0 mo)) H := hP
  have hD : va_D (aH s) ((WO cI cJ ad ao u166.1 lo hi T u166.2 C og) ++ (WM cI am u194.1 ah bk bo mv T u194.2 C 0 mo)) := hD
  obtain ⟨fx, dx⟩ := u166
  obtain ⟨fm, dm⟩ := u194
  dsimp only at *
  rcases q166 with ⟨a1, a2, a3, a4⟩ | ⟨a1, a2, a3⟩
  · skip
    rcases q194 with ⟨b1, b2, b3, b4⟩ | ⟨b1, b2, b3⟩
    · skip
      obtain rfl : fx = dorF f Dn (xs (5 * j + 1)) (xs (5 * j + 2)) (xs (5 * j + 3)) (xs (5 * j + 4)) := a3
      obtain rfl : fm = dorF f Dn (xs (5 * j + 1)) (xs (5 * j + 2)) (xs (5 * j + 3)) (xs (5 * j + 4)) := b3
      obtain rfl : dm = dx := t_inj (by omega)
      refine c_icmp_eq (tgt := 809) hx hb dL_law_197 (by decide) (fun _ => ?_) (fun cn => absurd (a2.trans b2.symm) cn)
      refine W.widen (k := 34 + (j + 1)) (n := 3172 + 6 * (j + 1)) (by omega) (by omega) ?_
      exact K (dorF f Dn (xs (5 * j + 1)) (xs (5 * j + 2)) (xs (5 * j + 3)) (xs (5 * j + 4))) lo hi T _ C og ah bk bo mv 0 mo (Tn) (Dn + 1) (Cn) _ _ _ _ ⟨Inv_dor hI a1, hT, (by omega), hC, hP, hD, hS⟩ hx4 (lv_sub hl [0, 1, 2, 3, 4] rfl)
    · skip
      exact absurd a1 b1
  · skip
    rcases q194 with ⟨b1, b2, b3, b4⟩ | ⟨b1, b2, b3⟩
    · skip
      exact absurd b1 a1
    · skip
      cases a3
      cases b3
      refine c_icmp_eq (tgt := 809) hx hb dL_law_197 (by decide) (fun _ => ?_) (fun cn => absurd (a2.trans b2.symm) cn)
      refine W.widen (k := 34 + (j + 1)) (n := 3172 + 6 * (j + 1)) (by omega) (by omega) ?_
      exact K f lo hi T Dv C og ah bk bo mv 0 mo (Tn) (Dn) (Cn) _ _ _ _ ⟨hI, hT, hDv, hC, hP, hD, hS⟩ hx4 (lv_sub hl [0, 1, 2, 3, 4] rfl)
