def IN (f : Nat → Nat → Int32) (Tn Dn Cn : Nat) (tm wh ms th r : Int) : Prop :=
  (¬ ((0 ≤ tm ∧ tm ≤ (Tn : Int)) ∧ (0 ≤ wh ∧ wh ≤ 2)) ∧ th = 1) ∨
  (((0 ≤ tm ∧ tm ≤ (Tn : Int)) ∧ (0 ≤ wh ∧ wh ≤ 2)) ∧ noT f Tn Dn Cn 0 ∧ th = 2) ∨
  (((0 ≤ tm ∧ tm ≤ (Tn : Int)) ∧ (0 ≤ wh ∧ wh ≤ 2)) ∧ ¬ noT f Tn Dn Cn 0 ∧ th = 0 ∧ ∃ R : Nat → Int, Tt R (Trv f Tn Dn Cn (Tn - tm.toNat)) ∧ r = R (2 * wh.toNat + (if ms = 0 then 0 else 1)))
def TH (Qf : Nat → Int → Int → Prop) (f : Nat → Nat → Int32) (Tn Dn Cn : Nat) (dr tk ms th r : Int) : Prop :=
  (¬ ((0 ≤ dr ∧ dr < (Dn : Int)) ∧ (0 ≤ tk ∧ tk < (Tn : Int))) ∧ th = 1) ∨
  (((0 ≤ dr ∧ dr < (Dn : Int)) ∧ (0 ≤ tk ∧ tk < (Tn : Int))) ∧ noT f Tn Dn Cn 0 ∧ th = 2) ∨
  (((0 ≤ dr ∧ dr < (Dn : Int)) ∧ (0 ≤ tk ∧ tk < (Tn : Int))) ∧ ¬ noT f Tn Dn Cn 0 ∧ th = 0 ∧ ∃ x y c : Nat → Int, Tt x (Fw f Dn Cn 0 tk.toNat) ∧ Tt y (Qf (Tn - (tk.toNat + 1))) ∧ eq6 c (crow (mvs f tk.toNat 0 dr Dn)) ∧
    r = (if ms = 0 then thL (f 0 dr.toNat).toInt (nLo f dr.toNat tk.toNat 0) y x c else thH (f 0 dr.toNat).toInt (nHi f dr.toNat tk.toNat 0) y x c))
def LK (f : Nat → Nat → Int32) (Tn Dn : Nat) (dr wh th r : Int) : Prop :=
  (¬ (0 ≤ dr ∧ dr < (Dn : Int)) ∧ th = 1) ∨
  ((0 ≤ dr ∧ dr < (Dn : Int)) ∧ (wh < 0 ∨ 6 < wh) ∧ th = 2) ∨
  ((0 ≤ dr ∧ dr < (Dn : Int)) ∧ th = 0 ∧ ((wh = 0 ∧ r = (f 0 dr.toNat).toInt) ∨ (wh = 1 ∧ r = (f 1 dr.toNat).toInt) ∨ (wh = 2 ∧ r = (f 2 dr.toNat).toInt) ∨ (wh = 3 ∧ r = (f 3 dr.toNat).toInt) ∨ (wh = 4 ∧ r = cntR f dr.toNat Tn) ∨ (wh = 5 ∧ r = sumR f 4 dr.toNat Tn) ∨ (wh = 6 ∧ r = sumR f 5 dr.toNat Tn)))
theorem rows_T {f : Nat → Nat → Int32} {Tn Dn Cn : Nat} {R : Nat → Nat → Int} (h : ∀ j, j ≤ Tn → Tt (R j) (Fw f Dn Cn 0 j) ∧ bh (R j) 50000) : ¬ noT f Tn Dn Cn 0 := by
  rintro ⟨t, ht, hn⟩
  obtain ⟨a, b, q⟩ := (h t ht).1.some
  exact hn a b q
theorem WK_no {f : Nat → Nat → Int32} {Tn Dn Cn : Nat} {r : Int} {ah bk bo : Nat → Int32} (h : WK f Tn Dn Cn r ah bk bo) (hr : r = 0) : noT f Tn Dn Cn 0 := by
  rcases h with ⟨-, h⟩ | ⟨h, -⟩
  · exact h
  · omega
theorem WK_yes {f : Nat → Nat → Int32} {Tn Dn Cn : Nat} {r : Int} {ah bk bo : Nat → Int32} (h : WK f Tn Dn Cn r ah bk bo) (hr : r ≠ 0) : ∀ j, j ≤ Tn → (Tt (rwM ah j) (Fw f Dn Cn 0 j) ∧ bh (rwM ah j) 50000) ∧ (Tt (rwM bk j) (Bkv f Tn Dn Cn (Tn - j)) ∧ bh (rwM bk j) 1100000) ∧ Tt (rwM bo j) (Trv f Tn Dn Cn (Tn - j)) := by
  rcases h with ⟨h, -⟩ | ⟨-, h⟩
  · omega
  · exact h
theorem WK_01 {f : Nat → Nat → Int32} {Tn Dn Cn : Nat} {r : Int} {ah bk bo : Nat → Int32} (h : WK f Tn Dn Cn r ah bk bo) : r = 0 ∨ r = 1 := by
  rcases h with ⟨h, -⟩ | ⟨h, -⟩ <;> omega
set_option maxHeartbeats 4000000 in
set_option maxRecDepth 100000 in
theorem kX2_fits (l : Launch) (D : va_G) (cI : ClassId) (ad : Nat → Nat) (f : Nat → Nat → Int32) (ah : Nat → Int32) (bk : Nat → Int32) (bo : Nat → Int32) (mv : Nat → Int32) (T : Int32) (Dv : Int32) (C : Int32) (th : Int32) (mo : Int32) (Tn : Nat) (Dn : Nat) (Cn : Nat) (hT : T.toInt = (Tn : Int)) (hDv : Dv.toInt = (Dn : Int)) (hC : C.toInt = (Cn : Int)) (hI : Inv f Tn Dn Cn) : MI l yX2_fits wsX2_fits ({ frames := 5, cells := 0, slots := 0, locals := 110 } : Room) D [(cI, .int)] [.ref (ad 0)] (WM cI ad f ah bk bo mv T Dv C th mo) (fun u : (Nat → Int32) × (Nat → Int32) × (Nat → Int32) × (Nat → Int32) × Int32 × Int32 => (WM cI ad f u.1 u.2.1 u.2.2.1 u.2.2.2.1 T Dv C u.2.2.2.2.1 u.2.2.2.2.2)) (fun (r : Int32) (_ : (Nat → Int32) × (Nat → Int32) × (Nat → Int32) × (Nat → Int32) × Int32 × Int32) => FT f Tn Dn Cn r.toInt) := by
  refine c_ent (cc := cX2_fits) (maxL := 1) (ret := (some .int)) (Qc := fun A => va_Qi (fun (r : Int32) (_ : (Nat → Int32) × (Nat → Int32) × (Nat → Int32) × (Nat → Int32) × Int32 × Int32) => FT f Tn Dn Cn r.toInt) (cB D [(cI, .int)] A (fun u : (Nat → Int32) × (Nat → Int32) × (Nat → Int32) × (Nat → Int32) × Int32 × Int32 => (WM cI ad f u.1 u.2.1 u.2.2.1 u.2.2.2.1 T Dv C u.2.2.2.2.1 u.2.2.2.2.2))) A) (by decide) rfl (Nat.le_of_ble_eq_true rfl) ?_
  intro p e s m below meth c A ls hx hb hr hlocks hts hown hml hK hP hD hA hl
  have hS : va_S A s.heap s.heap [] := va_S.rf
  have hl : lv_has ls 1 [(0, .ref (ad 0))] := hl
  have hP : va_P D vwCl (WM cI ad f ah bk bo mv T Dv C th mo) s.heap := hP
  have fl66 := hts (.fieldLink RX2 66 "DoorBenchModel" "thrown" "I") (by decide +kernel)
  have fl79 := hts (.fieldLink RX2 79 "DoorBenchModel" "more" "I") (by decide +kernel)
  have inX2 : ∀ w ∈ wsX20, w ∈ wsX2_fits := by decide +kernel
  obtain ⟨hI0, hId, hIr, hIs, hIc⟩ := id hI
  refine lv_aload_n hx hb dX2_fits_0 rfl (lv_at hl 0 rfl) ?_
  refine c_iconst hx hb dX2_fits_1 (by decide) (fun v1 i1 => ?_)
  obtain rfl : v1 = 0 := t_inj (by rw [i1]; rfl)
  refine c_put (D := D) (ci := 2) (C := RX2) (T := TX2) (N := 21) hx hb hts inX2 tyX2 tyX2_ok nmX2 hown hK hP hD hS 0 rfl rfl 15 (by decide) fl66 (fun _ h9 => h9) rfl (by decide +kernel) (Nat.le_of_ble_eq_true rfl) (WM cI ad f ah bk bo mv T Dv C 0 mo) rfl dX2_fits_2 (fun H locs hP hD hS => ?_)
  refine lv_aload_n hx hb dX2_fits_5 rfl (lv_at hl 0 rfl) ?_
  refine c_iconst hx hb dX2_fits_6 (by decide) (fun v6 i6 => ?_)
  obtain rfl : v6 = 0 := t_inj (by rw [i6]; rfl)
  refine c_put (D := D) (ci := 2) (C := RX2) (T := TX2) (N := 21) hx hb hts inX2 tyX2 tyX2_ok nmX2 hown hK hP hD hS 0 rfl rfl 20 (by decide) fl79 (fun _ h9 => h9) rfl (by decide +kernel) (Nat.le_of_ble_eq_true rfl) (WM cI ad f ah bk bo mv T Dv C 0 0) rfl dX2_fits_7 (fun H locs hP hD hS => ?_)
  refine lv_aload_n hx hb dX2_fits_10 rfl (lv_at hl 0 rfl) ?_
  refine c_wvi (As := []) (ci := 2) (q0 := 0) (kX2_forward l D cI ad f ah bk bo mv T Dv C 0 0 Tn Dn Cn hT hDv hC hI (by decide)) ⟨hx, hb, hml, hown, hts⟩ (cwV 0 hts gX2_fits_X2_forward rfl rfl rfl (by decide +kernel) ⟨Nat.le_of_ble_eq_true rfl, Nat.le_of_ble_eq_true rfl⟩) hK hP hD hS hA rfl rfl rfl rfl hl.1 rfl (Nat.le_of_ble_eq_true rfl) dX2_fits_11 ⟨Nat.zero_le _, Nat.zero_le _⟩ (fun r11 u11 H locs q11 hP hD hS => ?_)
  try dsimp only at q11
  have hP : va_P D vwCl (WM cI ad f u11.1 bk bo u11.2 T Dv C 0 0) H := hP
  have hD : va_D A (WM cI ad f u11.1 bk bo u11.2 T Dv C 0 0) := hD
  have q11 : LA f Tn Dn Cn 0 r11.toInt (fun j => rwM u11.1 j) := q11
  have hge := LA_ge q11
  refine c_if_ge (tgt := 21) hx hb dX2_fits_14 (by decide) (fun c14 => ?_) (fun c14 => ?_)
  · skip
    refine c_iconst hx hb dX2_fits_21 (by decide) (fun v21 i21 => ?_)
    exact c_ri (u11.1, bk, bo, u11.2, 0, 0) hx hb hr hlocks hK hP hD hS dX2_fits_22 ⟨_, _, q11, by omega⟩
  · skip
    refine c_iconst hx hb dX2_fits_17 (by decide) (fun v17 i17 => ?_)
    refine lv_goto (tgt := 22) hx hb dX2_fits_18 (by decide) ?_
    exact c_ri (u11.1, bk, bo, u11.2, 0, 0) hx hb hr hlocks hK hP hD hS dX2_fits_22 ⟨_, _, q11, by omega⟩
set_option maxHeartbeats 4000000 in
set_option maxRecDepth 100000 in
theorem kX2_quarrel (l : Launch) (D : va_G) (cI : ClassId) (ad : Nat → Nat) (f : Nat → Nat → Int32) (ah : Nat → Int32) (bk : Nat → Int32) (bo : Nat → Int32) (mv : Nat → Int32) (T : Int32) (Dv : Int32) (C : Int32) (th : Int32) (mo : Int32) (Tn : Nat) (Dn : Nat) (Cn : Nat) (hT : T.toInt = (Tn : Int)) (hDv : Dv.toInt = (Dn : Int)) (hC : C.toInt = (Cn : Int)) (hI : Inv f Tn Dn Cn) : MI l yX2_quarrel wsX2_quarrel ({ frames := 5, cells := 0, slots := 0, locals := 110 } : Room) D [(cI, .int)] [.ref (ad 0)] (WM cI ad f ah bk bo mv T Dv C th mo) (fun u : (Nat → Int32) × (Nat → Int32) × (Nat → Int32) × (Nat → Int32) × Int32 × Int32 => (WM cI ad f u.1 u.2.1 u.2.2.1 u.2.2.2.1 T Dv C u.2.2.2.2.1 u.2.2.2.2.2)) (fun (r : Int32) (_ : (Nat → Int32) × (Nat → Int32) × (Nat → Int32) × (Nat → Int32) × Int32 × Int32) => QR f Tn Dn Cn r.toInt) := by
  refine c_ent (cc := cX2_quarrel) (maxL := 1) (ret := (some .int)) (Qc := fun A => va_Qi (fun (r : Int32) (_ : (Nat → Int32) × (Nat → Int32) × (Nat → Int32) × (Nat → Int32) × Int32 × Int32) => QR f Tn Dn Cn r.toInt) (cB D [(cI, .int)] A (fun u : (Nat → Int32) × (Nat → Int32) × (Nat → Int32) × (Nat → Int32) × Int32 × Int32 => (WM cI ad f u.1 u.2.1 u.2.2.1 u.2.2.2.1 T Dv C u.2.2.2.2.1 u.2.2.2.2.2))) A) (by decide) rfl (Nat.le_of_ble_eq_true rfl) ?_
  intro p e s m below meth c A ls hx hb hr hlocks hts hown hml hK hP hD hA hl
  have hS : va_S A s.heap s.heap [] := va_S.rf
  have hl : lv_has ls 1 [(0, .ref (ad 0))] := hl
  have hP : va_P D vwCl (WM cI ad f ah bk bo mv T Dv C th mo) s.heap := hP
  have fl66 := hts (.fieldLink RX2 66 "DoorBenchModel" "thrown" "I") (by decide +kernel)
  have fl79 := hts (.fieldLink RX2 79 "DoorBenchModel" "more" "I") (by decide +kernel)
  have inX2 : ∀ w ∈ wsX20, w ∈ wsX2_quarrel := by decide +kernel
  obtain ⟨hI0, hId, hIr, hIs, hIc⟩ := id hI
  refine lv_aload_n hx hb dX2_quarrel_0 rfl (lv_at hl 0 rfl) ?_
  refine c_iconst hx hb dX2_quarrel_1 (by decide) (fun v1 i1 => ?_)
  obtain rfl : v1 = 0 := t_inj (by rw [i1]; rfl)
  refine c_put (D := D) (ci := 2) (C := RX2) (T := TX2) (N := 21) hx hb hts inX2 tyX2 tyX2_ok nmX2 hown hK hP hD hS 0 rfl rfl 15 (by decide) fl66 (fun _ h9 => h9) rfl (by decide +kernel) (Nat.le_of_ble_eq_true rfl) (WM cI ad f ah bk bo mv T Dv C 0 mo) rfl dX2_quarrel_2 (fun H locs hP hD hS => ?_)
  refine lv_aload_n hx hb dX2_quarrel_5 rfl (lv_at hl 0 rfl) ?_
  refine c_iconst hx hb dX2_quarrel_6 (by decide) (fun v6 i6 => ?_)
  obtain rfl : v6 = 0 := t_inj (by rw [i6]; rfl)
  refine c_put (D := D) (ci := 2) (C := RX2) (T := TX2) (N := 21) hx hb hts inX2 tyX2 tyX2_ok nmX2 hown hK hP hD hS 0 rfl rfl 20 (by decide) fl79 (fun _ h9 => h9) rfl (by decide +kernel) (Nat.le_of_ble_eq_true rfl) (WM cI ad f ah bk bo mv T Dv C 0 0) rfl dX2_quarrel_7 (fun H locs hP hD hS => ?_)
  refine lv_aload_n hx hb dX2_quarrel_10 rfl (lv_at hl 0 rfl) ?_
  refine c_wvi (As := []) (ci := 2) (q0 := 0) (kX2_forward l D cI ad f ah bk bo mv T Dv C 0 0 Tn Dn Cn hT hDv hC hI (by decide)) ⟨hx, hb, hml, hown, hts⟩ (cwV 0 hts gX2_quarrel_X2_forward rfl rfl rfl (by decide +kernel) ⟨Nat.le_of_ble_eq_true rfl, Nat.le_of_ble_eq_true rfl⟩) hK hP hD hS hA rfl rfl rfl rfl hl.1 rfl (Nat.le_of_ble_eq_true rfl) dX2_quarrel_11 ⟨Nat.zero_le _, Nat.zero_le _⟩ (fun r11 u11 H locs q11 hP hD hS => ?_)
  try dsimp only at q11
  have hP : va_P D vwCl (WM cI ad f u11.1 bk bo u11.2 T Dv C 0 0) H := hP
  have hD : va_D A (WM cI ad f u11.1 bk bo u11.2 T Dv C 0 0) := hD
  have q11 : LA f Tn Dn Cn 0 r11.toInt (fun j => rwM u11.1 j) := q11
  exact c_ri (u11.1, bk, bo, u11.2, 0, 0) hx hb hr hlocks hK hP hD hS dX2_quarrel_14 ⟨_, q11⟩
set_option maxHeartbeats 4000000 in
set_option maxRecDepth 100000 in
theorem kX2_worse (l : Launch) (D : va_G) (cI : ClassId) (ad : Nat → Nat) (f : Nat → Nat → Int32) (ah : Nat → Int32) (bk : Nat → Int32) (bo : Nat → Int32) (mv : Nat → Int32) (T : Int32) (Dv : Int32) (C : Int32) (th : Int32) (mo : Int32) (Tn : Nat) (Dn : Nat) (Cn : Nat) (hT : T.toInt = (Tn : Int)) (hDv : Dv.toInt = (Dn : Int)) (hC : C.toInt = (Cn : Int)) (hI : Inv f Tn Dn Cn) : MI l yX2_worse wsX2_worse ({ frames := 5, cells := 0, slots := 0, locals := 110 } : Room) D [(cI, .int)] [.ref (ad 0)] (WM cI ad f ah bk bo mv T Dv C th mo) (fun u : (Nat → Int32) × (Nat → Int32) × (Nat → Int32) × (Nat → Int32) × Int32 × Int32 => (WM cI ad f u.1 u.2.1 u.2.2.1 u.2.2.2.1 T Dv C u.2.2.2.2.1 u.2.2.2.2.2)) (fun (r : Int32) (_ : (Nat → Int32) × (Nat → Int32) × (Nat → Int32) × (Nat → Int32) × Int32 × Int32) => WR f Tn Dn Cn r.toInt) := by
  refine c_ent (cc := cX2_worse) (maxL := 2) (ret := (some .int)) (Qc := fun A => va_Qi (fun (r : Int32) (_ : (Nat → Int32) × (Nat → Int32) × (Nat → Int32) × (Nat → Int32) × Int32 × Int32) => WR f Tn Dn Cn r.toInt) (cB D [(cI, .int)] A (fun u : (Nat → Int32) × (Nat → Int32) × (Nat → Int32) × (Nat → Int32) × Int32 × Int32 => (WM cI ad f u.1 u.2.1 u.2.2.1 u.2.2.2.1 T Dv C u.2.2.2.2.1 u.2.2.2.2.2))) A) (by decide) rfl (Nat.le_of_ble_eq_true rfl) ?_
  intro p e s m below meth c A ls hx hb hr hlocks hts hown hml hK hP hD hA hl
  have hS : va_S A s.heap s.heap [] := va_S.rf
  have hl : lv_has ls 2 [(0, .ref (ad 0))] := hl
  have hP : va_P D vwCl (WM cI ad f ah bk bo mv T Dv C th mo) s.heap := hP
  have fl66 := hts (.fieldLink RX2 66 "DoorBenchModel" "thrown" "I") (by decide +kernel)
  have fl79 := hts (.fieldLink RX2 79 "DoorBenchModel" "more" "I") (by decide +kernel)
  have inX2 : ∀ w ∈ wsX20, w ∈ wsX2_worse := by decide +kernel
  obtain ⟨hI0, hId, hIr, hIs, hIc⟩ := id hI
  refine lv_aload_n hx hb dX2_worse_0 rfl (lv_at hl 0 rfl) ?_
  refine c_iconst hx hb dX2_worse_1 (by decide) (fun v1 i1 => ?_)
  obtain rfl : v1 = 0 := t_inj (by rw [i1]; rfl)
  refine c_put (D := D) (ci := 2) (C := RX2) (T := TX2) (N := 21) hx hb hts inX2 tyX2 tyX2_ok nmX2 hown hK hP hD hS 0 rfl rfl 15 (by decide) fl66 (fun _ h9 => h9) rfl (by decide +kernel) (Nat.le_of_ble_eq_true rfl) (WM cI ad f ah bk bo mv T Dv C 0 mo) rfl dX2_worse_2 (fun H locs hP hD hS => ?_)
  refine c_iconst hx hb dX2_worse_5 (by decide) (fun v5 i5 => ?_)
  refine lv_istore_n (lv' := [(1, .int v5), (0, .ref (ad 0))]) hx hb dX2_worse_6 rfl hl (by decide) rfl (fun ls hl => ?_)
  have HL7 : ∀ (n : Nat) (k : Nat) (x1 : Int32) (ah1 : Nat → Int32) (m1 : Nat → Int32) (mo1 : Int32) (H : Heap) (locs : List Loc) (ls : Array Slot), (x1.toInt = (k : Int)) → (k ≤ 6) → (7 ≤ k + n) → (∀ i : Nat, i < k → ∃ v R, LA f Tn Dn Cn (i : Int) v R ∧ v ≠ -1) → va_P D vwCl (WM cI ad f ah1 bk bo m1 T Dv C 0 mo1) H → va_D A (WM cI ad f ah1 bk bo m1 T Dv C 0 mo1) → va_S A s.heap H locs → lv_has ls 2 [(0, .ref (ad 0)), (1, .int x1)] → W p l e ({ frames := 5, cells := 0, slots := 0, locals := 110 } : Room) s m [.ref (ad 0)].toArray below meth c H locs 0 0 (MQ below (va_Qi (fun (r : Int32) (_ : (Nat → Int32) × (Nat → Int32) × (Nat → Int32) × (Nat → Int32) × Int32 × Int32) => WR f Tn Dn Cn r.toInt) (cB D [(cI, .int)] A (fun u : (Nat → Int32) × (Nat → Int32) × (Nat → Int32) × (Nat → Int32) × Int32 × Int32 => (WM cI ad f u.1 u.2.1 u.2.2.1 u.2.2.2.1 T Dv C u.2.2.2.2.1 u.2.2.2.2.2))) A) [.ref (ad 0)].toArray s 0 0 A) (F0 m 7 ls []) := by
    intro n
    induction n with
    | zero => intro k x1 ah1 m1 mo1 H locs ls hx1 hk hms hno; exact absurd hms (by omega)
    | succ n ih7 =>
      intro k x1 ah1 m1 mo1 H locs ls hx1 hk hms hno hP hD hS hl
      refine lv_iload_n hx hb dX2_worse_7 rfl (lv_at hl 1 rfl) ?_
      refine c_bipush hx hb dX2_worse_8 (by decide) (fun v8 i8 => ?_)
      refine c_icmp_ge (tgt := 33) hx hb dX2_worse_10 (by decide) (fun c10 => ?_) (fun c10 => ?_)
      · skip
        refine c_iconst hx hb dX2_worse_33 (by decide) (fun v33 i33 => ?_)
        exact c_ri (ah1, bk, bo, m1, 0, mo1) hx hb hr hlocks hK hP hD hS dX2_worse_34 (Or.inr ⟨by omega, fun i hi => hno i (by omega)⟩)
      · skip
        refine lv_aload_n hx hb dX2_worse_13 rfl (lv_at hl 0 rfl) ?_
        refine lv_iload_n hx hb dX2_worse_14 rfl (lv_at hl 1 rfl) ?_
        refine c_put (D := D) (ci := 2) (C := RX2) (T := TX2) (N := 21) hx hb hts inX2 tyX2 tyX2_ok nmX2 hown hK hP hD hS 0 rfl rfl 20 (by decide) fl79 (fun _ h9 => h9) rfl (by decide +kernel) (Nat.le_of_ble_eq_true rfl) (WM cI ad f ah1 bk bo m1 T Dv C 0 x1) rfl dX2_worse_15 (fun H locs hP hD hS => ?_)
        refine lv_aload_n hx hb dX2_worse_18 rfl (lv_at hl 0 rfl) ?_
        refine c_wvi (As := []) (ci := 2) (q0 := 0) (kX2_forward l D cI ad f ah1 bk bo m1 T Dv C 0 x1 Tn Dn Cn hT hDv hC hI (by omega)) ⟨hx, hb, hml, hown, hts⟩ (cwV 0 hts gX2_worse_X2_forward rfl rfl rfl (by decide +kernel) ⟨Nat.le_of_ble_eq_true rfl, Nat.le_of_ble_eq_true rfl⟩) hK hP hD hS hA rfl rfl rfl rfl hl.1 rfl (Nat.le_of_ble_eq_true rfl) dX2_worse_19 ⟨Nat.zero_le _, Nat.zero_le _⟩ (fun r19 u19 H locs q19 hP hD hS => ?_)
        try dsimp only at q19
        have hP : va_P D vwCl (WM cI ad f u19.1 bk bo u19.2 T Dv C 0 x1) H := hP
        have hD : va_D A (WM cI ad f u19.1 bk bo u19.2 T Dv C 0 x1) := hD
        rw [hx1] at q19
        have hge := LA_ge q19
        refine c_if_ge (tgt := 27) hx hb dX2_worse_22 (by decide) (fun c22 => ?_) (fun c22 => ?_)
        · skip
          refine c_iinc (k := 1) hx hb (fun v27 => [(1, .int v27), (0, .ref (ad 0))]) dX2_worse_27 hl rfl (by decide) (by omega) (by decide) (fun _ => rfl) (fun v27 ls i27 hl => ?_)
          have hl : lv_has ls 2 [(1, .int v27), (0, .ref (ad 0))] := hl
          refine lv_goto (tgt := 7) hx hb dX2_worse_30 (by decide) ?_
          exact ih7 (k + 1) v27 u19.1 u19.2 x1 _ _ _ (by omega) (by omega) (by omega) (fun i hi => by
                    rcases (show i < k ∨ i = k by omega) with h | rfl
                    · exact hno i h
                    · exact ⟨_, _, q19, by omega⟩) hP hD hS (lv_sub hl [1, 0] rfl)
        · skip
          refine lv_iload_n hx hb dX2_worse_25 rfl (lv_at hl 1 rfl) ?_
          exact c_ri (u19.1, bk, bo, u19.2, 0, x1) hx hb hr hlocks hK hP hD hS dX2_worse_26 (Or.inl ⟨k, by omega, hx1, ⟨_, by rw [show (-1 : Int) = r19.toInt by omega]; exact q19⟩, hno⟩)
  exact HL7 7 0 v5 ah mv mo _ _ _ (by omega) (by omega) (by omega) (fun i h => absurd h (by omega)) hP hD hS (lv_sub hl [1, 0] rfl)
set_option maxHeartbeats 4000000 in
set_option maxRecDepth 100000 in
theorem kX2_above (l : Launch) (D : va_G) (cI : ClassId) (ad : Nat → Nat) (f : Nat → Nat → Int32) (ah : Nat → Int32) (bk : Nat → Int32) (bo : Nat → Int32) (mv : Nat → Int32) (T : Int32) (Dv : Int32) (C : Int32) (th : Int32) (mo : Int32) (Tn : Nat) (Dn : Nat) (Cn : Nat) (p1 : Int32) (p2 : Int32) (wh : Nat) (hT : T.toInt = (Tn : Int)) (hDv : Dv.toInt = (Dn : Int)) (hC : C.toInt = (Cn : Int)) (hI : Inv f Tn Dn Cn) (h2 : p2.toInt = (wh : Int)) (hwh : wh = 4 ∨ wh = 5) : MI l yX2_above wsX2_above ({ frames := 6, cells := 0, slots := 0, locals := 134 } : Room) D [(cI, .int)] [.ref (ad 0), .int p1, .int p2] (WM cI ad f ah bk bo mv T Dv C th mo) (fun u : (Nat → Int32) × (Nat → Int32) × (Nat → Int32) × (Nat → Int32) × Int32 × Int32 => (WM cI ad f u.1 u.2.1 u.2.2.1 u.2.2.2.1 T Dv C u.2.2.2.2.1 u.2.2.2.2.2)) (fun (r : Int32) (u : (Nat → Int32) × (Nat → Int32) × (Nat → Int32) × (Nat → Int32) × Int32 × Int32) => FA f Tn Dn Cn p1.toInt r.toInt wh ∧ u.2.2.2.2.1 = th) := by
  refine c_ent (cc := cX2_above) (maxL := 4) (ret := (some .int)) (Qc := fun A => va_Qi (fun (r : Int32) (u : (Nat → Int32) × (Nat → Int32) × (Nat → Int32) × (Nat → Int32) × Int32 × Int32) => FA f Tn Dn Cn p1.toInt r.toInt wh ∧ u.2.2.2.2.1 = th) (cB D [(cI, .int)] A (fun u : (Nat → Int32) × (Nat → Int32) × (Nat → Int32) × (Nat → Int32) × Int32 × Int32 => (WM cI ad f u.1 u.2.1 u.2.2.1 u.2.2.2.1 T Dv C u.2.2.2.2.1 u.2.2.2.2.2))) A) (by decide) rfl (Nat.le_of_ble_eq_true rfl) ?_
  intro p e s m below meth c A ls hx hb hr hlocks hts hown hml hK hP hD hA hl
  have hS : va_S A s.heap s.heap [] := va_S.rf
  have hl : lv_has ls 4 [(0, .ref (ad 0)), (1, .int p1), (2, .int p2)] := hl
  have hP : va_P D vwCl (WM cI ad f ah bk bo mv T Dv C th mo) s.heap := hP
  have fl7 := hts (.fieldLink RX2 7 "DoorBenchModel" "ticks" "I") (by decide +kernel)
  have fl56 := hts (.fieldLink RX2 56 "DoorBenchModel" "both" "[I") (by decide +kernel)
  have inX2 : ∀ w ∈ wsX20, w ∈ wsX2_above := by decide +kernel
  obtain ⟨hI0, hId, hIr, hIs, hIc⟩ := id hI
  refine lv_iload_n hx hb dX2_above_0 rfl (lv_at hl 1 rfl) ?_
  refine c_if_lt (tgt := 17) hx hb dX2_above_1 (by decide) (fun c1 => ?_) (fun c1 => ?_)
  · skip
    refine c_iconst hx hb dX2_above_17 (by decide) (fun v17 i17 => ?_)
    exact c_ri (ah, bk, bo, mv, th, mo) hx hb hr hlocks hK hP hD hS dX2_above_18 ⟨Or.inl ⟨Or.inl (by omega), by omega⟩, rfl⟩
  · skip
    refine lv_iload_n hx hb dX2_above_4 rfl (lv_at hl 1 rfl) ?_
    refine c_ldc (n := 99999) hx hb hown (hts (.constant RX2 128 (99999)) (by decide +kernel)) dX2_above_5 (by decide) (fun v5 i5 => ?_)
    refine c_icmp_gt (tgt := 17) hx hb dX2_above_7 (by decide) (fun c7 => ?_) (fun c7 => ?_)
    · skip
      refine c_iconst hx hb dX2_above_17 (by decide) (fun v17_2 i17_2 => ?_)
      exact c_ri (ah, bk, bo, mv, th, mo) hx hb hr hlocks hK hP hD hS dX2_above_18 ⟨Or.inl ⟨Or.inl (by omega), by omega⟩, rfl⟩
    · skip
      refine lv_aload_n hx hb dX2_above_10 rfl (lv_at hl 0 rfl) ?_
      refine c_wvi (As := []) (ci := 2) (q0 := 0) (kX2_work l D cI ad f ah bk bo mv T Dv C th mo Tn Dn Cn hT hDv hC hI) ⟨hx, hb, hml, hown, hts⟩ (cwV 0 hts gX2_above_X2_work rfl rfl rfl (by decide +kernel) ⟨Nat.le_of_ble_eq_true rfl, Nat.le_of_ble_eq_true rfl⟩) hK hP hD hS hA rfl rfl rfl rfl hl.1 rfl (Nat.le_of_ble_eq_true rfl) dX2_above_11 ⟨Nat.zero_le _, Nat.zero_le _⟩ (fun r11 u11 H locs q11 hP hD hS => ?_)
      try dsimp only at q11
      have hP : va_P D vwCl (WM cI ad f u11.1 u11.2.1 u11.2.2.1 u11.2.2.2 T Dv C th 0) H := hP
      have hD : va_D A (WM cI ad f u11.1 u11.2.1 u11.2.2.1 u11.2.2.2 T Dv C th 0) := hD
      have h01 := WK_01 q11
      refine c_if_ne (tgt := 19) hx hb dX2_above_14 (by decide) (fun c14 => ?_) (fun c14 => ?_)
      · skip
        have hy := WK_yes q11 (by omega)
        refine c_iconst hx hb dX2_above_19 (by decide) (fun v19 i19 => ?_)
        refine lv_istore_n (lv' := [(3, .int v19), (0, .ref (ad 0)), (1, .int p1), (2, .int p2)]) hx hb dX2_above_20 rfl hl (by decide) rfl (fun ls hl => ?_)
        have HL21 : ∀ (n : Nat) (t : Nat) (x3 : Int32) (H : Heap) (locs : List Loc) (ls : Array Slot), (x3.toInt = (t : Int)) → (t ≤ Tn + 1) → (Tn + 2 ≤ t + n) → (∀ j, j < t → rwM u11.2.2.1 j wh ≤ p1.toInt) → va_P D vwCl (WM cI ad f u11.1 u11.2.1 u11.2.2.1 u11.2.2.2 T Dv C th 0) H → va_D A (WM cI ad f u11.1 u11.2.1 u11.2.2.1 u11.2.2.2 T Dv C th 0) → va_S A s.heap H locs → lv_has ls 4 [(0, .ref (ad 0)), (1, .int p1), (2, .int p2), (3, .int x3)] → W p l e ({ frames := 6, cells := 0, slots := 0, locals := 134 } : Room) s m [.ref (ad 0), .int p1, .int p2].toArray below meth c H locs 0 0 (MQ below (va_Qi (fun (r : Int32) (u : (Nat → Int32) × (Nat → Int32) × (Nat → Int32) × (Nat → Int32) × Int32 × Int32) => FA f Tn Dn Cn p1.toInt r.toInt wh ∧ u.2.2.2.2.1 = th) (cB D [(cI, .int)] A (fun u : (Nat → Int32) × (Nat → Int32) × (Nat → Int32) × (Nat → Int32) × Int32 × Int32 => (WM cI ad f u.1 u.2.1 u.2.2.1 u.2.2.2.1 T Dv C u.2.2.2.2.1 u.2.2.2.2.2))) A) [.ref (ad 0), .int p1, .int p2].toArray s 0 0 A) (F0 m 21 ls []) := by
          intro n
          induction n with
          | zero => intro t x3 H locs ls hx3 ht hms hle; exact absurd hms (by omega)
          | succ n ih21 =>
            intro t x3 H locs ls hx3 ht hms hle hP hD hS hl
            refine lv_iload_n hx hb dX2_above_21 rfl (lv_at hl 3 rfl) ?_
            refine lv_aload_n hx hb dX2_above_22 rfl (lv_at hl 0 rfl) ?_
            refine va_get (D := D) (ci := 2) (v := .int T) (C := RX2) (T := TX2) (N := 21) hx hb hts inX2 hown hK hP 0 rfl rfl 0 (by decide) fl7 (fun _ h9 => h9) rfl dX2_above_23 ?_
            refine c_icmp_gt (tgt := 52) hx hb dX2_above_26 (by decide) (fun c26 => ?_) (fun c26 => ?_)
            · skip
              refine c_iconst hx hb dX2_above_52 (by decide) (fun v52 i52 => ?_)
              exact c_ri (u11.1, u11.2.1, u11.2.2.1, u11.2.2.2, th, 0) hx hb hr hlocks hK hP hD hS dX2_above_53 ⟨Or.inr ⟨by omega, (fun j => rwM u11.2.2.1 j), fun j hj => (hy j hj).2.2, Or.inr ⟨by omega, fun j hj => hle j (by omega)⟩⟩, rfl⟩
            · skip
              refine lv_aload_n hx hb dX2_above_29 rfl (lv_at hl 0 rfl) ?_
              refine va_get (D := D) (ci := 2) (v := .ref (ad 15)) (C := RX2) (T := TX2) (N := 21) hx hb hts inX2 hown hK hP 0 rfl rfl 18 (by decide) fl56 (fun _ h9 => h9) rfl dX2_above_30 ?_
              refine c_bipush hx hb dX2_above_33 (by decide) (fun v33 i33 => ?_)
              refine lv_iload_n hx hb dX2_above_35 rfl (lv_at hl 3 rfl) ?_
              refine c_imul (a := 6) (b := x3.toInt) hx hb dX2_above_36 (by omega) rfl (by omega) (fun v36 i36 => ?_)
              refine lv_iload_n hx hb dX2_above_37 rfl (lv_at hl 2 rfl) ?_
              refine c_iadd hx hb dX2_above_38 (by omega) (fun v38 i38 => ?_)
              refine c_iald hx hb hK hP 15 0 rfl rfl (6 * t + wh) (by omega) (by omega) dX2_above_39 (fun v39 e39 => ?_)
              have i39 : v39.toInt = (u11.2.2.1 (6 * t + wh)).toInt := by rw [e39]
              have y39 : v39.toInt = rwM u11.2.2.1 t wh := i39
              refine lv_iload_n hx hb dX2_above_40 rfl (lv_at hl 1 rfl) ?_
              refine c_icmp_le (tgt := 46) hx hb dX2_above_41 (by decide) (fun c41 => ?_) (fun c41 => ?_)
              · skip
                refine c_iinc (k := 3) hx hb (fun v46 => [(3, .int v46), (0, .ref (ad 0)), (1, .int p1), (2, .int p2)]) dX2_above_46 hl rfl (by decide) (by omega) (by decide) (fun _ => rfl) (fun v46 ls i46 hl => ?_)
                have hl : lv_has ls 4 [(3, .int v46), (0, .ref (ad 0)), (1, .int p1), (2, .int p2)] := hl
                refine lv_goto (tgt := 21) hx hb dX2_above_49 (by decide) ?_
                exact ih21 (t + 1) v46 _ _ _ (by omega) (by omega) (by omega) (fun j hj => by
                        rcases (show j < t ∨ j = t by omega) with h | rfl
                        · exact hle j h
                        · omega) hP hD hS (lv_sub hl [1, 2, 3, 0] rfl)
              · skip
                refine lv_iload_n hx hb dX2_above_44 rfl (lv_at hl 3 rfl) ?_
                exact c_ri (u11.1, u11.2.1, u11.2.2.1, u11.2.2.2, th, 0) hx hb hr hlocks hK hP hD hS dX2_above_45 ⟨Or.inr ⟨by omega, (fun j => rwM u11.2.2.1 j), fun j hj => (hy j hj).2.2, Or.inl ⟨t, by omega, hx3, by show p1.toInt < rwM u11.2.2.1 t wh; omega, hle⟩⟩, rfl⟩
        exact HL21 (Tn + 2) 0 v19 _ _ _ (by omega) (by omega) (by omega) (fun j h => absurd h (by omega)) hP hD hS (lv_sub hl [1, 2, 3, 0] rfl)
      · skip
        refine c_iconst hx hb dX2_above_17 (by decide) (fun v17_3 i17_3 => ?_)
        exact c_ri (u11.1, u11.2.1, u11.2.2.1, u11.2.2.2, th, 0) hx hb hr hlocks hK hP hD hS dX2_above_18 ⟨Or.inl ⟨Or.inr (WK_no q11 (by omega)), by omega⟩, rfl⟩
set_option maxHeartbeats 4000000 in
set_option maxRecDepth 100000 in
theorem kX2_could (l : Launch) (D : va_G) (cI : ClassId) (ad : Nat → Nat) (f : Nat → Nat → Int32) (ah : Nat → Int32) (bk : Nat → Int32) (bo : Nat → Int32) (mv : Nat → Int32) (T : Int32) (Dv : Int32) (C : Int32) (th : Int32) (mo : Int32) (Tn : Nat) (Dn : Nat) (Cn : Nat) (p1 : Int32) (hT : T.toInt = (Tn : Int)) (hDv : Dv.toInt = (Dn : Int)) (hC : C.toInt = (Cn : Int)) (hI : Inv f Tn Dn Cn) : MI l yX2_could wsX2_could ({ frames := 7, cells := 0, slots := 0, locals := 157 } : Room) D [(cI, .int)] [.ref (ad 0), .int p1] (WM cI ad f ah bk bo mv T Dv C th mo) (fun u : (Nat → Int32) × (Nat → Int32) × (Nat → Int32) × (Nat → Int32) × Int32 × Int32 => (WM cI ad f u.1 u.2.1 u.2.2.1 u.2.2.2.1 T Dv C u.2.2.2.2.1 u.2.2.2.2.2)) (fun (r : Int32) (_ : (Nat → Int32) × (Nat → Int32) × (Nat → Int32) × (Nat → Int32) × Int32 × Int32) => FA f Tn Dn Cn p1.toInt r.toInt 5) := by
  refine c_ent (cc := cX2_could) (maxL := 2) (ret := (some .int)) (Qc := fun A => va_Qi (fun (r : Int32) (_ : (Nat → Int32) × (Nat → Int32) × (Nat → Int32) × (Nat → Int32) × Int32 × Int32) => FA f Tn Dn Cn p1.toInt r.toInt 5) (cB D [(cI, .int)] A (fun u : (Nat → Int32) × (Nat → Int32) × (Nat → Int32) × (Nat → Int32) × Int32 × Int32 => (WM cI ad f u.1 u.2.1 u.2.2.1 u.2.2.2.1 T Dv C u.2.2.2.2.1 u.2.2.2.2.2))) A) (by decide) rfl (Nat.le_of_ble_eq_true rfl) ?_
  intro p e s m below meth c A ls hx hb hr hlocks hts hown hml hK hP hD hA hl
  have hS : va_S A s.heap s.heap [] := va_S.rf
  have hl : lv_has ls 2 [(0, .ref (ad 0)), (1, .int p1)] := hl
  have hP : va_P D vwCl (WM cI ad f ah bk bo mv T Dv C th mo) s.heap := hP
  have fl66 := hts (.fieldLink RX2 66 "DoorBenchModel" "thrown" "I") (by decide +kernel)
  have inX2 : ∀ w ∈ wsX20, w ∈ wsX2_could := by decide +kernel
  obtain ⟨hI0, hId, hIr, hIs, hIc⟩ := id hI
  refine lv_aload_n hx hb dX2_could_0 rfl (lv_at hl 0 rfl) ?_
  refine c_iconst hx hb dX2_could_1 (by decide) (fun v1 i1 => ?_)
  obtain rfl : v1 = 0 := t_inj (by rw [i1]; rfl)
  refine c_put (D := D) (ci := 2) (C := RX2) (T := TX2) (N := 21) hx hb hts inX2 tyX2 tyX2_ok nmX2 hown hK hP hD hS 0 rfl rfl 15 (by decide) fl66 (fun _ h9 => h9) rfl (by decide +kernel) (Nat.le_of_ble_eq_true rfl) (WM cI ad f ah bk bo mv T Dv C 0 mo) rfl dX2_could_2 (fun H locs hP hD hS => ?_)
  refine lv_aload_n hx hb dX2_could_5 rfl (lv_at hl 0 rfl) ?_
  refine lv_iload_n hx hb dX2_could_6 rfl (lv_at hl 1 rfl) ?_
  refine c_iconst hx hb dX2_could_7 (by decide) (fun v7 i7 => ?_)
  refine c_wvi (As := [.int p1, .int v7]) (ci := 2) (q0 := 0) (kX2_above l D cI ad f ah bk bo mv T Dv C 0 mo Tn Dn Cn p1 v7 (5) hT hDv hC hI (by omega) (by omega)) ⟨hx, hb, hml, hown, hts⟩ (cwV 2 hts gX2_could_X2_above rfl rfl rfl (by decide +kernel) ⟨Nat.le_of_ble_eq_true rfl, Nat.le_of_ble_eq_true rfl⟩) hK hP hD hS hA rfl rfl rfl rfl hl.1 rfl (Nat.le_of_ble_eq_true rfl) dX2_could_8 ⟨Nat.zero_le _, Nat.zero_le _⟩ (fun r8 u8 H locs q8 hP hD hS => ?_)
  try dsimp only at q8
  have hP : va_P D vwCl (WM cI ad f u8.1 u8.2.1 u8.2.2.1 u8.2.2.2.1 T Dv C u8.2.2.2.2.1 u8.2.2.2.2.2) H := hP
  have hD : va_D A (WM cI ad f u8.1 u8.2.1 u8.2.2.1 u8.2.2.2.1 T Dv C u8.2.2.2.2.1 u8.2.2.2.2.2) := hD
  exact c_ri (u8.1, u8.2.1, u8.2.2.1, u8.2.2.2.1, u8.2.2.2.2.1, u8.2.2.2.2.2) hx hb hr hlocks hK hP hD hS dX2_could_11 q8.1
set_option maxHeartbeats 4000000 in
set_option maxRecDepth 100000 in
theorem kX2_surely (l : Launch) (D : va_G) (cI : ClassId) (ad : Nat → Nat) (f : Nat → Nat → Int32) (ah : Nat → Int32) (bk : Nat → Int32) (bo : Nat → Int32) (mv : Nat → Int32) (T : Int32) (Dv : Int32) (C : Int32) (th : Int32) (mo : Int32) (Tn : Nat) (Dn : Nat) (Cn : Nat) (p1 : Int32) (hT : T.toInt = (Tn : Int)) (hDv : Dv.toInt = (Dn : Int)) (hC : C.toInt = (Cn : Int)) (hI : Inv f Tn Dn Cn) : MI l yX2_surely wsX2_surely ({ frames := 7, cells := 0, slots := 0, locals := 157 } : Room) D [(cI, .int)] [.ref (ad 0), .int p1] (WM cI ad f ah bk bo mv T Dv C th mo) (fun u : (Nat → Int32) × (Nat → Int32) × (Nat → Int32) × (Nat → Int32) × Int32 × Int32 => (WM cI ad f u.1 u.2.1 u.2.2.1 u.2.2.2.1 T Dv C u.2.2.2.2.1 u.2.2.2.2.2)) (fun (r : Int32) (_ : (Nat → Int32) × (Nat → Int32) × (Nat → Int32) × (Nat → Int32) × Int32 × Int32) => FA f Tn Dn Cn p1.toInt r.toInt 4) := by
  refine c_ent (cc := cX2_surely) (maxL := 2) (ret := (some .int)) (Qc := fun A => va_Qi (fun (r : Int32) (_ : (Nat → Int32) × (Nat → Int32) × (Nat → Int32) × (Nat → Int32) × Int32 × Int32) => FA f Tn Dn Cn p1.toInt r.toInt 4) (cB D [(cI, .int)] A (fun u : (Nat → Int32) × (Nat → Int32) × (Nat → Int32) × (Nat → Int32) × Int32 × Int32 => (WM cI ad f u.1 u.2.1 u.2.2.1 u.2.2.2.1 T Dv C u.2.2.2.2.1 u.2.2.2.2.2))) A) (by decide) rfl (Nat.le_of_ble_eq_true rfl) ?_
  intro p e s m below meth c A ls hx hb hr hlocks hts hown hml hK hP hD hA hl
  have hS : va_S A s.heap s.heap [] := va_S.rf
  have hl : lv_has ls 2 [(0, .ref (ad 0)), (1, .int p1)] := hl
  have hP : va_P D vwCl (WM cI ad f ah bk bo mv T Dv C th mo) s.heap := hP
  have fl66 := hts (.fieldLink RX2 66 "DoorBenchModel" "thrown" "I") (by decide +kernel)
  have inX2 : ∀ w ∈ wsX20, w ∈ wsX2_surely := by decide +kernel
  obtain ⟨hI0, hId, hIr, hIs, hIc⟩ := id hI
  refine lv_aload_n hx hb dX2_surely_0 rfl (lv_at hl 0 rfl) ?_
  refine c_iconst hx hb dX2_surely_1 (by decide) (fun v1 i1 => ?_)
  obtain rfl : v1 = 0 := t_inj (by rw [i1]; rfl)
  refine c_put (D := D) (ci := 2) (C := RX2) (T := TX2) (N := 21) hx hb hts inX2 tyX2 tyX2_ok nmX2 hown hK hP hD hS 0 rfl rfl 15 (by decide) fl66 (fun _ h9 => h9) rfl (by decide +kernel) (Nat.le_of_ble_eq_true rfl) (WM cI ad f ah bk bo mv T Dv C 0 mo) rfl dX2_surely_2 (fun H locs hP hD hS => ?_)
  refine lv_aload_n hx hb dX2_surely_5 rfl (lv_at hl 0 rfl) ?_
  refine lv_iload_n hx hb dX2_surely_6 rfl (lv_at hl 1 rfl) ?_
  refine c_iconst hx hb dX2_surely_7 (by decide) (fun v7 i7 => ?_)
  refine c_wvi (As := [.int p1, .int v7]) (ci := 2) (q0 := 0) (kX2_above l D cI ad f ah bk bo mv T Dv C 0 mo Tn Dn Cn p1 v7 (4) hT hDv hC hI (by omega) (by omega)) ⟨hx, hb, hml, hown, hts⟩ (cwV 2 hts gX2_surely_X2_above rfl rfl rfl (by decide +kernel) ⟨Nat.le_of_ble_eq_true rfl, Nat.le_of_ble_eq_true rfl⟩) hK hP hD hS hA rfl rfl rfl rfl hl.1 rfl (Nat.le_of_ble_eq_true rfl) dX2_surely_8 ⟨Nat.zero_le _, Nat.zero_le _⟩ (fun r8 u8 H locs q8 hP hD hS => ?_)
  try dsimp only at q8
  have hP : va_P D vwCl (WM cI ad f u8.1 u8.2.1 u8.2.2.1 u8.2.2.2.1 T Dv C u8.2.2.2.2.1 u8.2.2.2.2.2) H := hP
  have hD : va_D A (WM cI ad f u8.1 u8.2.1 u8.2.2.1 u8.2.2.2.1 T Dv C u8.2.2.2.2.1 u8.2.2.2.2.2) := hD
  exact c_ri (u8.1, u8.2.1, u8.2.2.1, u8.2.2.2.1, u8.2.2.2.2.1, u8.2.2.2.2.2) hx hb hr hlocks hK hP hD hS dX2_surely_11 q8.1
set_option maxHeartbeats 4000000 in
set_option maxRecDepth 100000 in
theorem kX2_fails (l : Launch) (D : va_G) (cI : ClassId) (ad : Nat → Nat) (f : Nat → Nat → Int32) (ah : Nat → Int32) (bk : Nat → Int32) (bo : Nat → Int32) (mv : Nat → Int32) (T : Int32) (Dv : Int32) (C : Int32) (th : Int32) (mo : Int32) (p1 : Int32) : MI l yX2_fails wsX2_fails ({ frames := 0, cells := 0, slots := 0, locals := 0 } : Room) D [(cI, .int)] [.ref (ad 0), .int p1] (WM cI ad f ah bk bo mv T Dv C th mo) (fun u : Unit => (WM cI ad f ah bk bo mv T Dv C p1 mo)) (fun (r : Int32) (_ : Unit) => r.toInt = 0) := by
  refine c_ent (cc := cX2_fails) (maxL := 2) (ret := (some .int)) (Qc := fun A => va_Qi (fun (r : Int32) (_ : Unit) => r.toInt = 0) (cB D [(cI, .int)] A (fun u : Unit => (WM cI ad f ah bk bo mv T Dv C p1 mo))) A) (by decide) rfl (Nat.le_of_ble_eq_true rfl) ?_
  intro p e s m below meth c A ls hx hb hr hlocks hts hown hml hK hP hD hA hl
  have hS : va_S A s.heap s.heap [] := va_S.rf
  have hl : lv_has ls 2 [(0, .ref (ad 0)), (1, .int p1)] := hl
  have hP : va_P D vwCl (WM cI ad f ah bk bo mv T Dv C th mo) s.heap := hP
  have fl66 := hts (.fieldLink RX2 66 "DoorBenchModel" "thrown" "I") (by decide +kernel)
  have inX2 : ∀ w ∈ wsX20, w ∈ wsX2_fails := by decide +kernel
  refine lv_aload_n hx hb dX2_fails_0 rfl (lv_at hl 0 rfl) ?_
  refine lv_iload_n hx hb dX2_fails_1 rfl (lv_at hl 1 rfl) ?_
  refine c_put (D := D) (ci := 2) (C := RX2) (T := TX2) (N := 21) hx hb hts inX2 tyX2 tyX2_ok nmX2 hown hK hP hD hS 0 rfl rfl 15 (by decide) fl66 (fun _ h9 => h9) rfl (by decide +kernel) (Nat.le_of_ble_eq_true rfl) (WM cI ad f ah bk bo mv T Dv C p1 mo) rfl dX2_fails_2 (fun H locs hP hD hS => ?_)
  refine c_iconst hx hb dX2_fails_5 (by decide) (fun v5 i5 => ?_)
  exact c_ri () hx hb hr hlocks hK hP hD hS dX2_fails_6 (by (try dsimp only); omega)
set_option maxHeartbeats 4000000 in
set_option maxRecDepth 100000 in
theorem kX2_inside (l : Launch) (D : va_G) (cI : ClassId) (ad : Nat → Nat) (f : Nat → Nat → Int32) (ah : Nat → Int32) (bk : Nat → Int32) (bo : Nat → Int32) (mv : Nat → Int32) (T : Int32) (Dv : Int32) (C : Int32) (th : Int32) (mo : Int32) (Tn : Nat) (Dn : Nat) (Cn : Nat) (p1 : Int32) (p2 : Int32) (p3 : Int32) (hT : T.toInt = (Tn : Int)) (hDv : Dv.toInt = (Dn : Int)) (hC : C.toInt = (Cn : Int)) (hI : Inv f Tn Dn Cn) : MI l yX2_inside wsX2_inside ({ frames := 6, cells := 0, slots := 0, locals := 134 } : Room) D [(cI, .int)] [.ref (ad 0), .int p1, .int p2, .int p3] (WM cI ad f ah bk bo mv T Dv C th mo) (fun u : (Nat → Int32) × (Nat → Int32) × (Nat → Int32) × (Nat → Int32) × Int32 × Int32 => (WM cI ad f u.1 u.2.1 u.2.2.1 u.2.2.2.1 T Dv C u.2.2.2.2.1 u.2.2.2.2.2)) (fun (r : Int32) (u : (Nat → Int32) × (Nat → Int32) × (Nat → Int32) × (Nat → Int32) × Int32 × Int32) => IN f Tn Dn Cn p1.toInt p2.toInt p3.toInt u.2.2.2.2.1.toInt r.toInt) := by
  refine c_ent (cc := cX2_inside) (maxL := 4) (ret := (some .int)) (Qc := fun A => va_Qi (fun (r : Int32) (u : (Nat → Int32) × (Nat → Int32) × (Nat → Int32) × (Nat → Int32) × Int32 × Int32) => IN f Tn Dn Cn p1.toInt p2.toInt p3.toInt u.2.2.2.2.1.toInt r.toInt) (cB D [(cI, .int)] A (fun u : (Nat → Int32) × (Nat → Int32) × (Nat → Int32) × (Nat → Int32) × Int32 × Int32 => (WM cI ad f u.1 u.2.1 u.2.2.1 u.2.2.2.1 T Dv C u.2.2.2.2.1 u.2.2.2.2.2))) A) (by decide) rfl (Nat.le_of_ble_eq_true rfl) ?_
  intro p e s m below meth c A ls hx hb hr hlocks hts hown hml hK hP hD hA hl
  have hS : va_S A s.heap s.heap [] := va_S.rf
  have hl : lv_has ls 4 [(0, .ref (ad 0)), (1, .int p1), (2, .int p2), (3, .int p3)] := hl
  have hP : va_P D vwCl (WM cI ad f ah bk bo mv T Dv C th mo) s.heap := hP
  have fl7 := hts (.fieldLink RX2 7 "DoorBenchModel" "ticks" "I") (by decide +kernel)
  have fl56 := hts (.fieldLink RX2 56 "DoorBenchModel" "both" "[I") (by decide +kernel)
  have fl66 := hts (.fieldLink RX2 66 "DoorBenchModel" "thrown" "I") (by decide +kernel)
  have inX2 : ∀ w ∈ wsX20, w ∈ wsX2_inside := by decide +kernel
  obtain ⟨hI0, hId, hIr, hIs, hIc⟩ := id hI
  refine lv_aload_n hx hb dX2_inside_0 rfl (lv_at hl 0 rfl) ?_
  refine c_iconst hx hb dX2_inside_1 (by decide) (fun v1 i1 => ?_)
  obtain rfl : v1 = 0 := t_inj (by rw [i1]; rfl)
  refine c_put (D := D) (ci := 2) (C := RX2) (T := TX2) (N := 21) hx hb hts inX2 tyX2 tyX2_ok nmX2 hown hK hP hD hS 0 rfl rfl 15 (by decide) fl66 (fun _ h9 => h9) rfl (by decide +kernel) (Nat.le_of_ble_eq_true rfl) (WM cI ad f ah bk bo mv T Dv C 0 mo) rfl dX2_inside_2 (fun H locs hP hD hS => ?_)
  refine lv_iload_n hx hb dX2_inside_5 rfl (lv_at hl 1 rfl) ?_
  refine c_if_lt (tgt := 26) hx hb dX2_inside_6 (by decide) (fun c6 => ?_) (fun c6 => ?_)
  · skip
    refine lv_aload_n hx hb dX2_inside_26 rfl (lv_at hl 0 rfl) ?_
    refine c_iconst hx hb dX2_inside_27 (by decide) (fun v27 i27 => ?_)
    refine c_wvi (As := [.int v27]) (ci := 2) (q0 := 0) (kX2_fails l D cI ad f ah bk bo mv T Dv C 0 mo v27) ⟨hx, hb, hml, hown, hts⟩ (cwV 1 hts gX2_inside_X2_fails rfl rfl rfl (by decide +kernel) ⟨Nat.le_of_ble_eq_true rfl, Nat.le_of_ble_eq_true rfl⟩) hK hP hD hS hA rfl rfl rfl rfl hl.1 rfl (Nat.le_of_ble_eq_true rfl) dX2_inside_28 ⟨Nat.zero_le _, Nat.zero_le _⟩ (fun r28 u28 H locs q28 hP hD hS => ?_)
    try dsimp only at q28
    have hP : va_P D vwCl (WM cI ad f ah bk bo mv T Dv C v27 mo) H := hP
    have hD : va_D A (WM cI ad f ah bk bo mv T Dv C v27 mo) := hD
    exact c_ri (ah, bk, bo, mv, v27, mo) hx hb hr hlocks hK hP hD hS dX2_inside_31 (Or.inl ⟨by omega, by (try dsimp only); omega⟩)
  · skip
    refine lv_iload_n hx hb dX2_inside_9 rfl (lv_at hl 1 rfl) ?_
    refine lv_aload_n hx hb dX2_inside_10 rfl (lv_at hl 0 rfl) ?_
    refine va_get (D := D) (ci := 2) (v := .int T) (C := RX2) (T := TX2) (N := 21) hx hb hts inX2 hown hK hP 0 rfl rfl 0 (by decide) fl7 (fun _ h9 => h9) rfl dX2_inside_11 ?_
    refine c_icmp_gt (tgt := 26) hx hb dX2_inside_14 (by decide) (fun c14 => ?_) (fun c14 => ?_)
    · skip
      refine lv_aload_n hx hb dX2_inside_26 rfl (lv_at hl 0 rfl) ?_
      refine c_iconst hx hb dX2_inside_27 (by decide) (fun v27_2 i27_2 => ?_)
      refine c_wvi (As := [.int v27_2]) (ci := 2) (q0 := 0) (kX2_fails l D cI ad f ah bk bo mv T Dv C 0 mo v27_2) ⟨hx, hb, hml, hown, hts⟩ (cwV 1 hts gX2_inside_X2_fails rfl rfl rfl (by decide +kernel) ⟨Nat.le_of_ble_eq_true rfl, Nat.le_of_ble_eq_true rfl⟩) hK hP hD hS hA rfl rfl rfl rfl hl.1 rfl (Nat.le_of_ble_eq_true rfl) dX2_inside_28 ⟨Nat.zero_le _, Nat.zero_le _⟩ (fun r28_2 u28_2 H locs q28_2 hP hD hS => ?_)
      try dsimp only at q28_2
      have hP : va_P D vwCl (WM cI ad f ah bk bo mv T Dv C v27_2 mo) H := hP
      have hD : va_D A (WM cI ad f ah bk bo mv T Dv C v27_2 mo) := hD
      exact c_ri (ah, bk, bo, mv, v27_2, mo) hx hb hr hlocks hK hP hD hS dX2_inside_31 (Or.inl ⟨by omega, by (try dsimp only); omega⟩)
    · skip
      refine lv_iload_n hx hb dX2_inside_17 rfl (lv_at hl 2 rfl) ?_
      refine c_if_lt (tgt := 26) hx hb dX2_inside_18 (by decide) (fun c18 => ?_) (fun c18 => ?_)
      · skip
        refine lv_aload_n hx hb dX2_inside_26 rfl (lv_at hl 0 rfl) ?_
        refine c_iconst hx hb dX2_inside_27 (by decide) (fun v27_3 i27_3 => ?_)
        refine c_wvi (As := [.int v27_3]) (ci := 2) (q0 := 0) (kX2_fails l D cI ad f ah bk bo mv T Dv C 0 mo v27_3) ⟨hx, hb, hml, hown, hts⟩ (cwV 1 hts gX2_inside_X2_fails rfl rfl rfl (by decide +kernel) ⟨Nat.le_of_ble_eq_true rfl, Nat.le_of_ble_eq_true rfl⟩) hK hP hD hS hA rfl rfl rfl rfl hl.1 rfl (Nat.le_of_ble_eq_true rfl) dX2_inside_28 ⟨Nat.zero_le _, Nat.zero_le _⟩ (fun r28_3 u28_3 H locs q28_3 hP hD hS => ?_)
        try dsimp only at q28_3
        have hP : va_P D vwCl (WM cI ad f ah bk bo mv T Dv C v27_3 mo) H := hP
        have hD : va_D A (WM cI ad f ah bk bo mv T Dv C v27_3 mo) := hD
        exact c_ri (ah, bk, bo, mv, v27_3, mo) hx hb hr hlocks hK hP hD hS dX2_inside_31 (Or.inl ⟨by omega, by (try dsimp only); omega⟩)
      · skip
        refine lv_iload_n hx hb dX2_inside_21 rfl (lv_at hl 2 rfl) ?_
        refine c_iconst hx hb dX2_inside_22 (by decide) (fun v22 i22 => ?_)
        refine c_icmp_le (tgt := 32) hx hb dX2_inside_23 (by decide) (fun c23 => ?_) (fun c23 => ?_)
        · skip
          refine lv_aload_n hx hb dX2_inside_32 rfl (lv_at hl 0 rfl) ?_
          refine c_wvi (As := []) (ci := 2) (q0 := 0) (kX2_work l D cI ad f ah bk bo mv T Dv C 0 mo Tn Dn Cn hT hDv hC hI) ⟨hx, hb, hml, hown, hts⟩ (cwV 0 hts gX2_inside_X2_work rfl rfl rfl (by decide +kernel) ⟨Nat.le_of_ble_eq_true rfl, Nat.le_of_ble_eq_true rfl⟩) hK hP hD hS hA rfl rfl rfl rfl hl.1 rfl (Nat.le_of_ble_eq_true rfl) dX2_inside_33 ⟨Nat.zero_le _, Nat.zero_le _⟩ (fun r33 u33 H locs q33 hP hD hS => ?_)
          try dsimp only at q33
          have hP : va_P D vwCl (WM cI ad f u33.1 u33.2.1 u33.2.2.1 u33.2.2.2 T Dv C 0 0) H := hP
          have hD : va_D A (WM cI ad f u33.1 u33.2.1 u33.2.2.1 u33.2.2.2 T Dv C 0 0) := hD
          have h01 := WK_01 q33
          refine c_if_ne (tgt := 45) hx hb dX2_inside_36 (by decide) (fun c36 => ?_) (fun c36 => ?_)
          · skip
            have hy := WK_yes q33 (by omega)
            refine lv_aload_n hx hb dX2_inside_45 rfl (lv_at hl 0 rfl) ?_
            refine va_get (D := D) (ci := 2) (v := .ref (ad 15)) (C := RX2) (T := TX2) (N := 21) hx hb hts inX2 hown hK hP 0 rfl rfl 18 (by decide) fl56 (fun _ h9 => h9) rfl dX2_inside_46 ?_
            refine c_bipush hx hb dX2_inside_49 (by decide) (fun v49 i49 => ?_)
            refine lv_iload_n hx hb dX2_inside_51 rfl (lv_at hl 1 rfl) ?_
            refine c_imul (a := 6) (b := p1.toInt) hx hb dX2_inside_52 (by omega) rfl (by omega) (fun v52 i52 => ?_)
            refine c_iconst hx hb dX2_inside_53 (by decide) (fun v53 i53 => ?_)
            refine lv_iload_n hx hb dX2_inside_54 rfl (lv_at hl 2 rfl) ?_
            refine c_imul (a := 2) (b := p2.toInt) hx hb dX2_inside_55 (by omega) rfl (by omega) (fun v55 i55 => ?_)
            refine c_iadd hx hb dX2_inside_56 (by omega) (fun v56 i56 => ?_)
            refine lv_iload_n hx hb dX2_inside_57 rfl (lv_at hl 3 rfl) ?_
            refine c_if_eq (tgt := 65) hx hb dX2_inside_58 (by decide) (fun c58 => ?_) (fun c58 => ?_)
            · skip
              refine c_iconst hx hb dX2_inside_65 (by decide) (fun v65 i65 => ?_)
              refine c_iadd hx hb dX2_inside_66 (by omega) (fun v66 i66 => ?_)
              refine c_iald hx hb hK hP 15 0 rfl rfl (6 * p1.toInt.toNat + 2 * p2.toInt.toNat) (by omega) (by omega) dX2_inside_67 (fun v67 e67 => ?_)
              have i67 : v67.toInt = (u33.2.2.1 (6 * p1.toInt.toNat + 2 * p2.toInt.toNat)).toInt := by rw [e67]
              exact c_ri (u33.1, u33.2.1, u33.2.2.1, u33.2.2.2, 0, 0) hx hb hr hlocks hK hP hD hS dX2_inside_68 (by
                    refine Or.inr (Or.inr ⟨by omega, rows_T (R := fun j => rwM u33.1 j) (fun j hj => (hy j hj).1), rfl, rwM u33.2.2.1 p1.toInt.toNat, (hy p1.toInt.toNat (by omega)).2.2, ?_⟩)
                    (try dsimp only)
                    first
                      | (rw [if_neg (by omega)]; exact i67)
                      | (rw [if_pos (by omega)]; exact i67)
                      | (rw [if_neg (by omega)]; exact i67_2)
                      | (rw [if_pos (by omega)]; exact i67_2))
            · skip
              refine c_iconst hx hb dX2_inside_61 (by decide) (fun v61 i61 => ?_)
              refine lv_goto (tgt := 66) hx hb dX2_inside_62 (by decide) ?_
              refine c_iadd hx hb dX2_inside_66 (by omega) (fun v66_2 i66_2 => ?_)
              refine c_iald hx hb hK hP 15 0 rfl rfl (6 * p1.toInt.toNat + 2 * p2.toInt.toNat + 1) (by omega) (by omega) dX2_inside_67 (fun v67_2 e67_2 => ?_)
              have i67_2 : v67_2.toInt = (u33.2.2.1 (6 * p1.toInt.toNat + 2 * p2.toInt.toNat + 1)).toInt := by rw [e67_2]
              exact c_ri (u33.1, u33.2.1, u33.2.2.1, u33.2.2.2, 0, 0) hx hb hr hlocks hK hP hD hS dX2_inside_68 (by
                    refine Or.inr (Or.inr ⟨by omega, rows_T (R := fun j => rwM u33.1 j) (fun j hj => (hy j hj).1), rfl, rwM u33.2.2.1 p1.toInt.toNat, (hy p1.toInt.toNat (by omega)).2.2, ?_⟩)
                    (try dsimp only)
                    first
                      | (rw [if_neg (by omega)]; exact i67)
                      | (rw [if_pos (by omega)]; exact i67)
                      | (rw [if_neg (by omega)]; exact i67_2)
                      | (rw [if_pos (by omega)]; exact i67_2))
          · skip
            refine lv_aload_n hx hb dX2_inside_39 rfl (lv_at hl 0 rfl) ?_
            refine c_iconst hx hb dX2_inside_40 (by decide) (fun v40 i40 => ?_)
            refine c_wvi (As := [.int v40]) (ci := 2) (q0 := 0) (kX2_fails l D cI ad f u33.1 u33.2.1 u33.2.2.1 u33.2.2.2 T Dv C 0 0 v40) ⟨hx, hb, hml, hown, hts⟩ (cwV 1 hts gX2_inside_X2_fails rfl rfl rfl (by decide +kernel) ⟨Nat.le_of_ble_eq_true rfl, Nat.le_of_ble_eq_true rfl⟩) hK hP hD hS hA rfl rfl rfl rfl hl.1 rfl (Nat.le_of_ble_eq_true rfl) dX2_inside_41 ⟨Nat.zero_le _, Nat.zero_le _⟩ (fun r41 u41 H locs q41 hP hD hS => ?_)
            try dsimp only at q41
            have hP : va_P D vwCl (WM cI ad f u33.1 u33.2.1 u33.2.2.1 u33.2.2.2 T Dv C v40 0) H := hP
            have hD : va_D A (WM cI ad f u33.1 u33.2.1 u33.2.2.1 u33.2.2.2 T Dv C v40 0) := hD
            exact c_ri (u33.1, u33.2.1, u33.2.2.1, u33.2.2.2, v40, 0) hx hb hr hlocks hK hP hD hS dX2_inside_44 (Or.inr (Or.inl ⟨by omega, WK_no q33 (by omega), by (try dsimp only); omega⟩))
        · skip
          refine lv_aload_n hx hb dX2_inside_26 rfl (lv_at hl 0 rfl) ?_
          refine c_iconst hx hb dX2_inside_27 (by decide) (fun v27_4 i27_4 => ?_)
          refine c_wvi (As := [.int v27_4]) (ci := 2) (q0 := 0) (kX2_fails l D cI ad f ah bk bo mv T Dv C 0 mo v27_4) ⟨hx, hb, hml, hown, hts⟩ (cwV 1 hts gX2_inside_X2_fails rfl rfl rfl (by decide +kernel) ⟨Nat.le_of_ble_eq_true rfl, Nat.le_of_ble_eq_true rfl⟩) hK hP hD hS hA rfl rfl rfl rfl hl.1 rfl (Nat.le_of_ble_eq_true rfl) dX2_inside_28 ⟨Nat.zero_le _, Nat.zero_le _⟩ (fun r28_4 u28_4 H locs q28_4 hP hD hS => ?_)
          try dsimp only at q28_4
          have hP : va_P D vwCl (WM cI ad f ah bk bo mv T Dv C v27_4 mo) H := hP
          have hD : va_D A (WM cI ad f ah bk bo mv T Dv C v27_4 mo) := hD
          exact c_ri (ah, bk, bo, mv, v27_4, mo) hx hb hr hlocks hK hP hD hS dX2_inside_31 (Or.inl ⟨by omega, by (try dsimp only); omega⟩)
set_option maxHeartbeats 4000000 in
set_option maxRecDepth 100000 in
theorem kX2_look (l : Launch) (D : va_G) (cI : ClassId) (ad : Nat → Nat) (f : Nat → Nat → Int32) (ah : Nat → Int32) (bk : Nat → Int32) (bo : Nat → Int32) (mv : Nat → Int32) (T : Int32) (Dv : Int32) (C : Int32) (th : Int32) (mo : Int32) (Tn : Nat) (Dn : Nat) (Cn : Nat) (p1 : Int32) (p2 : Int32) (hT : T.toInt = (Tn : Int)) (hDv : Dv.toInt = (Dn : Int)) (hC : C.toInt = (Cn : Int)) (hI : Inv f Tn Dn Cn) : MI l yX2_look wsX2_look ({ frames := 1, cells := 0, slots := 0, locals := 21 } : Room) D [(cI, .int)] [.ref (ad 0), .int p1, .int p2] (WM cI ad f ah bk bo mv T Dv C th mo) (fun u : (Nat → Int32) × (Nat → Int32) × (Nat → Int32) × (Nat → Int32) × Int32 × Int32 => (WM cI ad f u.1 u.2.1 u.2.2.1 u.2.2.2.1 T Dv C u.2.2.2.2.1 u.2.2.2.2.2)) (fun (r : Int32) (u : (Nat → Int32) × (Nat → Int32) × (Nat → Int32) × (Nat → Int32) × Int32 × Int32) => LK f Tn Dn p1.toInt p2.toInt u.2.2.2.2.1.toInt r.toInt) := by
  refine c_ent (cc := cX2_look) (maxL := 5) (ret := (some .int)) (Qc := fun A => va_Qi (fun (r : Int32) (u : (Nat → Int32) × (Nat → Int32) × (Nat → Int32) × (Nat → Int32) × Int32 × Int32) => LK f Tn Dn p1.toInt p2.toInt u.2.2.2.2.1.toInt r.toInt) (cB D [(cI, .int)] A (fun u : (Nat → Int32) × (Nat → Int32) × (Nat → Int32) × (Nat → Int32) × Int32 × Int32 => (WM cI ad f u.1 u.2.1 u.2.2.1 u.2.2.2.1 T Dv C u.2.2.2.2.1 u.2.2.2.2.2))) A) (by decide) rfl (Nat.le_of_ble_eq_true rfl) ?_
  intro p e s m below meth c A ls hx hb hr hlocks hts hown hml hK hP hD hA hl
  have hS : va_S A s.heap s.heap [] := va_S.rf
  have hl : lv_has ls 5 [(0, .ref (ad 0)), (1, .int p1), (2, .int p2)] := hl
  have hP : va_P D vwCl (WM cI ad f ah bk bo mv T Dv C th mo) s.heap := hP
  have fl7 := hts (.fieldLink RX2 7 "DoorBenchModel" "ticks" "I") (by decide +kernel)
  have fl13 := hts (.fieldLink RX2 13 "DoorBenchModel" "kind" "[I") (by decide +kernel)
  have fl17 := hts (.fieldLink RX2 17 "DoorBenchModel" "miss" "[I") (by decide +kernel)
  have fl20 := hts (.fieldLink RX2 20 "DoorBenchModel" "twice" "[I") (by decide +kernel)
  have fl23 := hts (.fieldLink RX2 23 "DoorBenchModel" "cap" "[I") (by decide +kernel)
  have fl26 := hts (.fieldLink RX2 26 "DoorBenchModel" "in" "[I") (by decide +kernel)
  have fl29 := hts (.fieldLink RX2 29 "DoorBenchModel" "out" "[I") (by decide +kernel)
  have fl66 := hts (.fieldLink RX2 66 "DoorBenchModel" "thrown" "I") (by decide +kernel)
  have fl69 := hts (.fieldLink RX2 69 "DoorBenchModel" "doors" "I") (by decide +kernel)
  have inX2 : ∀ w ∈ wsX20, w ∈ wsX2_look := by decide +kernel
  obtain ⟨hI0, hId, hIr, hIs, hIc⟩ := id hI
  refine lv_aload_n hx hb dX2_look_0 rfl (lv_at hl 0 rfl) ?_
  refine c_iconst hx hb dX2_look_1 (by decide) (fun v1 i1 => ?_)
  obtain rfl : v1 = 0 := t_inj (by rw [i1]; rfl)
  refine c_put (D := D) (ci := 2) (C := RX2) (T := TX2) (N := 21) hx hb hts inX2 tyX2 tyX2_ok nmX2 hown hK hP hD hS 0 rfl rfl 15 (by decide) fl66 (fun _ h9 => h9) rfl (by decide +kernel) (Nat.le_of_ble_eq_true rfl) (WM cI ad f ah bk bo mv T Dv C 0 mo) rfl dX2_look_2 (fun H locs hP hD hS => ?_)
  refine lv_iload_n hx hb dX2_look_5 rfl (lv_at hl 1 rfl) ?_
  refine c_if_lt (tgt := 17) hx hb dX2_look_6 (by decide) (fun c6 => ?_) (fun c6 => ?_)
  · skip
    refine lv_aload_n hx hb dX2_look_17 rfl (lv_at hl 0 rfl) ?_
    refine c_iconst hx hb dX2_look_18 (by decide) (fun v18 i18 => ?_)
    refine c_wvi (As := [.int v18]) (ci := 2) (q0 := 0) (kX2_fails l D cI ad f ah bk bo mv T Dv C 0 mo v18) ⟨hx, hb, hml, hown, hts⟩ (cwV 1 hts gX2_look_X2_fails rfl rfl rfl (by decide +kernel) ⟨Nat.le_of_ble_eq_true rfl, Nat.le_of_ble_eq_true rfl⟩) hK hP hD hS hA rfl rfl rfl rfl hl.1 rfl (Nat.le_of_ble_eq_true rfl) dX2_look_19 ⟨Nat.zero_le _, Nat.zero_le _⟩ (fun r19 u19 H locs q19 hP hD hS => ?_)
    try dsimp only at q19
    have hP : va_P D vwCl (WM cI ad f ah bk bo mv T Dv C v18 mo) H := hP
    have hD : va_D A (WM cI ad f ah bk bo mv T Dv C v18 mo) := hD
    exact c_ri (ah, bk, bo, mv, v18, mo) hx hb hr hlocks hK hP hD hS dX2_look_22 (Or.inl ⟨by omega, by (try dsimp only); omega⟩)
  · skip
    refine lv_iload_n hx hb dX2_look_9 rfl (lv_at hl 1 rfl) ?_
    refine lv_aload_n hx hb dX2_look_10 rfl (lv_at hl 0 rfl) ?_
    refine va_get (D := D) (ci := 2) (v := .int Dv) (C := RX2) (T := TX2) (N := 21) hx hb hts inX2 hown hK hP 0 rfl rfl 1 (by decide) fl69 (fun _ h9 => h9) rfl dX2_look_11 ?_
    refine c_icmp_lt (tgt := 23) hx hb dX2_look_14 (by decide) (fun c14 => ?_) (fun c14 => ?_)
    · skip
      refine c_iconst hx hb dX2_look_23 (by decide) (fun v23 i23 => ?_)
      refine lv_istore_n (lv' := [(3, .int v23), (0, .ref (ad 0)), (1, .int p1), (2, .int p2)]) hx hb dX2_look_24 rfl hl (by decide) rfl (fun ls hl => ?_)
      refine lv_iload_n hx hb dX2_look_25 rfl (lv_at hl 3 rfl) ?_
      by_cases o26 : p2.toInt < 0 ∨ 6 < p2.toInt
      · skip
        refine lv_tableOut (tgt := 178) hx hb dX2_look_26 o26 (by decide) ?_
        refine lv_aload_n hx hb dX2_look_178 rfl (lv_at hl 1 rfl) ?_
        refine c_iconst hx hb dX2_look_179 (by decide) (fun v179 i179 => ?_)
        refine c_wvi (As := [.int v179]) (ci := 2) (q0 := 0) (kX2_fails l D cI ad f ah bk bo mv T Dv C 0 mo v179) ⟨hx, hb, hml, hown, hts⟩ (cwV 1 hts gX2_look_X2_fails rfl rfl rfl (by decide +kernel) ⟨Nat.le_of_ble_eq_true rfl, Nat.le_of_ble_eq_true rfl⟩) hK hP hD hS hA rfl rfl rfl rfl hl.1 rfl (Nat.le_of_ble_eq_true rfl) dX2_look_180 ⟨Nat.zero_le _, Nat.zero_le _⟩ (fun r180 u180 H locs q180 hP hD hS => ?_)
        try dsimp only at q180
        have hP : va_P D vwCl (WM cI ad f ah bk bo mv T Dv C v179 mo) H := hP
        have hD : va_D A (WM cI ad f ah bk bo mv T Dv C v179 mo) := hD
        exact c_ri (ah, bk, bo, mv, v179, mo) hx hb hr hlocks hK hP hD hS dX2_look_183 (Or.inr (Or.inl ⟨by omega, by omega, by (try dsimp only); omega⟩))
      · skip
        rcases (show p2.toInt = 0 ∨ p2.toInt = 1 ∨ p2.toInt = 2 ∨ p2.toInt = 3 ∨ p2.toInt = 4 ∨ p2.toInt = 5 ∨ p2.toInt = 6 by omega) with w26 | w26 | w26 | w26 | w26 | w26 | w26
        · skip
          refine lv_tableIn (off := 42) (tgt := 68) hx hb dX2_look_26 (by omega) (by omega) (by rw [w26]; rfl) (by decide) ?_
          refine lv_aload_n hx hb dX2_look_68 rfl (lv_at hl 1 rfl) ?_
          refine va_get (D := D) (ci := 2) (v := .ref (ad 1)) (C := RX2) (T := TX2) (N := 21) hx hb hts inX2 hown hK hP 0 rfl rfl 2 (by decide) fl13 (fun _ h9 => h9) rfl dX2_look_69 ?_
          refine lv_iload_n hx hb dX2_look_72 rfl (lv_at hl 2 rfl) ?_
          refine c_iald hx hb hK hP 1 0 rfl rfl (p1.toInt.toNat) (by omega) (by omega) dX2_look_73 (fun v73 e73 => ?_)
          have i73 : v73.toInt = ((f 0) (p1.toInt.toNat)).toInt := by rw [e73]
          exact c_ri (ah, bk, bo, mv, 0, mo) hx hb hr hlocks hK hP hD hS dX2_look_74 (Or.inr (Or.inr ⟨by omega, rfl, Or.inl ⟨by omega, i73⟩⟩))
        · skip
          refine lv_tableIn (off := 49) (tgt := 75) hx hb dX2_look_26 (by omega) (by omega) (by rw [w26]; rfl) (by decide) ?_
          refine lv_aload_n hx hb dX2_look_75 rfl (lv_at hl 1 rfl) ?_
          refine va_get (D := D) (ci := 2) (v := .ref (ad 2)) (C := RX2) (T := TX2) (N := 21) hx hb hts inX2 hown hK hP 0 rfl rfl 3 (by decide) fl17 (fun _ h9 => h9) rfl dX2_look_76 ?_
          refine lv_iload_n hx hb dX2_look_79 rfl (lv_at hl 2 rfl) ?_
          refine c_iald hx hb hK hP 2 0 rfl rfl (p1.toInt.toNat) (by omega) (by omega) dX2_look_80 (fun v80 e80 => ?_)
          have i80 : v80.toInt = ((f 1) (p1.toInt.toNat)).toInt := by rw [e80]
          exact c_ri (ah, bk, bo, mv, 0, mo) hx hb hr hlocks hK hP hD hS dX2_look_81 (Or.inr (Or.inr ⟨by omega, rfl, Or.inr (Or.inl ⟨by omega, i80⟩)⟩))
        · skip
          refine lv_tableIn (off := 56) (tgt := 82) hx hb dX2_look_26 (by omega) (by omega) (by rw [w26]; rfl) (by decide) ?_
          refine lv_aload_n hx hb dX2_look_82 rfl (lv_at hl 1 rfl) ?_
          refine va_get (D := D) (ci := 2) (v := .ref (ad 3)) (C := RX2) (T := TX2) (N := 21) hx hb hts inX2 hown hK hP 0 rfl rfl 4 (by decide) fl20 (fun _ h9 => h9) rfl dX2_look_83 ?_
          refine lv_iload_n hx hb dX2_look_86 rfl (lv_at hl 2 rfl) ?_
          refine c_iald hx hb hK hP 3 0 rfl rfl (p1.toInt.toNat) (by omega) (by omega) dX2_look_87 (fun v87 e87 => ?_)
          have i87 : v87.toInt = ((f 2) (p1.toInt.toNat)).toInt := by rw [e87]
          exact c_ri (ah, bk, bo, mv, 0, mo) hx hb hr hlocks hK hP hD hS dX2_look_88 (Or.inr (Or.inr ⟨by omega, rfl, Or.inr (Or.inr (Or.inl ⟨by omega, i87⟩))⟩))
        · skip
          refine lv_tableIn (off := 63) (tgt := 89) hx hb dX2_look_26 (by omega) (by omega) (by rw [w26]; rfl) (by decide) ?_
          refine lv_aload_n hx hb dX2_look_89 rfl (lv_at hl 1 rfl) ?_
          refine va_get (D := D) (ci := 2) (v := .ref (ad 4)) (C := RX2) (T := TX2) (N := 21) hx hb hts inX2 hown hK hP 0 rfl rfl 5 (by decide) fl23 (fun _ h9 => h9) rfl dX2_look_90 ?_
          refine lv_iload_n hx hb dX2_look_93 rfl (lv_at hl 2 rfl) ?_
          refine c_iald hx hb hK hP 4 0 rfl rfl (p1.toInt.toNat) (by omega) (by omega) dX2_look_94 (fun v94 e94 => ?_)
          have i94 : v94.toInt = ((f 3) (p1.toInt.toNat)).toInt := by rw [e94]
          exact c_ri (ah, bk, bo, mv, 0, mo) hx hb hr hlocks hK hP hD hS dX2_look_95 (Or.inr (Or.inr ⟨by omega, rfl, Or.inr (Or.inr (Or.inr (Or.inl ⟨by omega, i94⟩)))⟩))
        · skip
          refine lv_tableIn (off := 70) (tgt := 96) hx hb dX2_look_26 (by omega) (by omega) (by rw [w26]; rfl) (by decide) ?_
          refine c_iconst hx hb dX2_look_96 (by decide) (fun v96 i96 => ?_)
          refine lv_istore (lv' := [(4, .int v96), (3, .int v23), (0, .ref (ad 0)), (1, .int p1), (2, .int p2)]) hx hb dX2_look_97 hl (by decide) rfl (fun ls hl => ?_)
          have HL99 : ∀ (n : Nat) (t : Nat) (x3 : Int32) (x4 : Int32) (H : Heap) (locs : List Loc) (ls : Array Slot), (x3.toInt = cntR f p1.toInt.toNat t) → (x4.toInt = (t : Int)) → (t ≤ Tn) → (Tn + 1 ≤ t + n) → va_P D vwCl (WM cI ad f ah bk bo mv T Dv C 0 mo) H → va_D A (WM cI ad f ah bk bo mv T Dv C 0 mo) → va_S A s.heap H locs → lv_has ls 5 [(0, .ref (ad 0)), (1, .int p1), (2, .int p2), (3, .int x3), (4, .int x4)] → W p l e ({ frames := 1, cells := 0, slots := 0, locals := 21 } : Room) s m [.ref (ad 0), .int p1, .int p2].toArray below meth c H locs 0 0 (MQ below (va_Qi (fun (r : Int32) (u : (Nat → Int32) × (Nat → Int32) × (Nat → Int32) × (Nat → Int32) × Int32 × Int32) => LK f Tn Dn p1.toInt p2.toInt u.2.2.2.2.1.toInt r.toInt) (cB D [(cI, .int)] A (fun u : (Nat → Int32) × (Nat → Int32) × (Nat → Int32) × (Nat → Int32) × Int32 × Int32 => (WM cI ad f u.1 u.2.1 u.2.2.1 u.2.2.2.1 T Dv C u.2.2.2.2.1 u.2.2.2.2.2))) A) [.ref (ad 0), .int p1, .int p2].toArray s 0 0 A) (F0 m 99 ls []) := by
            intro n
            induction n with
            | zero => intro t x3 x4 H locs ls hx3 hx4 ht hms; exact absurd hms (by omega)
            | succ n ih99 =>
              intro t x3 x4 H locs ls hx3 hx4 ht hms hP hD hS hl
              refine lv_iload hx hb dX2_look_99 (lv_at hl 4 rfl) ?_
              refine lv_aload_n hx hb dX2_look_101 rfl (lv_at hl 0 rfl) ?_
              refine va_get (D := D) (ci := 2) (v := .int T) (C := RX2) (T := TX2) (N := 21) hx hb hts inX2 hown hK hP 0 rfl rfl 0 (by decide) fl7 (fun _ h9 => h9) rfl dX2_look_102 ?_
              refine c_icmp_ge (tgt := 176) hx hb dX2_look_105 (by decide) (fun c105 => ?_) (fun c105 => ?_)
              · skip
                refine lv_iload_n hx hb dX2_look_176 rfl (lv_at hl 3 rfl) ?_
                exact c_ri (ah, bk, bo, mv, 0, mo) hx hb hr hlocks hK hP hD hS dX2_look_177 (by
                            refine Or.inr (Or.inr ⟨by omega, rfl, Or.inr (Or.inr (Or.inr (Or.inr (Or.inl ⟨by omega, ?_⟩))))⟩)
                            rw [show Tn = t by omega]; exact hx3)
              · skip
                have hcb := cntR_bd f p1.toInt.toNat t
                have n1 := hIr (60 * p1.toInt.toNat + t) (by omega)
                refine lv_aload_n hx hb dX2_look_108 rfl (lv_at hl 0 rfl) ?_
                refine va_get (D := D) (ci := 2) (v := .ref (ad 5)) (C := RX2) (T := TX2) (N := 21) hx hb hts inX2 hown hK hP 0 rfl rfl 6 (by decide) fl26 (fun _ h9 => h9) rfl dX2_look_109 ?_
                refine c_bipush hx hb dX2_look_112 (by decide) (fun v112 i112 => ?_)
                refine lv_iload_n hx hb dX2_look_114 rfl (lv_at hl 1 rfl) ?_
                refine c_imul (a := 60) (b := p1.toInt) hx hb dX2_look_115 (by omega) rfl (by omega) (fun v115 i115 => ?_)
                refine lv_iload hx hb dX2_look_116 (lv_at hl 4 rfl) ?_
                refine c_iadd hx hb dX2_look_118 (by omega) (fun v118 i118 => ?_)
                refine c_iald hx hb hK hP 5 0 rfl rfl (60 * p1.toInt.toNat + t) (by omega) (by omega) dX2_look_119 (fun v119 e119 => ?_)
                have i119 : v119.toInt = ((f 4) (60 * p1.toInt.toNat + t)).toInt := by rw [e119]
                refine c_if_ge (tgt := 126) hx hb dX2_look_120 (by decide) (fun c120 => ?_) (fun c120 => ?_)
                · skip
                  refine lv_iload_n hx hb dX2_look_126 rfl (lv_at hl 3 rfl) ?_
                  refine lv_iload_n hx hb dX2_look_127 rfl (lv_at hl 2 rfl) ?_
                  refine c_iconst hx hb dX2_look_128 (by decide) (fun v128 i128 => ?_)
                  refine c_icmp_ne (tgt := 136) hx hb dX2_look_129 (by decide) (fun c129 => absurd c129 (by omega)) (fun c129 => ?_)
                  refine c_iconst hx hb dX2_look_132 (by decide) (fun v132 i132 => ?_)
                  refine lv_goto (tgt := 168) hx hb dX2_look_133 (by decide) ?_
                  refine c_iadd hx hb dX2_look_168 (by omega) (fun v168 i168 => ?_)
                  refine lv_istore_n (lv' := [(3, .int v168), (0, .ref (ad 0)), (1, .int p1), (2, .int p2), (4, .int x4)]) hx hb dX2_look_169 rfl hl (by decide) rfl (fun ls hl => ?_)
                  refine c_iinc (k := 4) hx hb (fun v170 => [(4, .int v170), (3, .int v168), (0, .ref (ad 0)), (1, .int p1), (2, .int p2)]) dX2_look_170 hl rfl (by decide) (by omega) (by decide) (fun _ => rfl) (fun v170 ls i170 hl => ?_)
                  have hl : lv_has ls 5 [(4, .int v170), (3, .int v168), (0, .ref (ad 0)), (1, .int p1), (2, .int p2)] := hl
                  refine lv_goto (tgt := 99) hx hb dX2_look_173 (by decide) ?_
                  exact ih99 (t + 1) v168 v170 _ _ _ (by show _ = cntR f p1.toInt.toNat t + _; split <;> omega) (by omega) (by omega) (by omega) hP hD hS (lv_sub hl [2, 3, 4, 1, 0] rfl)
                · skip
                  refine lv_goto (tgt := 170) hx hb dX2_look_123 (by decide) ?_
                  refine c_iinc (k := 4) hx hb (fun v170_2 => [(4, .int v170_2), (0, .ref (ad 0)), (1, .int p1), (2, .int p2), (3, .int x3)]) dX2_look_170 hl rfl (by decide) (by omega) (by decide) (fun _ => rfl) (fun v170_2 ls i170_2 hl => ?_)
                  have hl : lv_has ls 5 [(4, .int v170_2), (0, .ref (ad 0)), (1, .int p1), (2, .int p2), (3, .int x3)] := hl
                  refine lv_goto (tgt := 99) hx hb dX2_look_173 (by decide) ?_
                  exact ih99 (t + 1) x3 v170_2 _ _ _ (by show _ = cntR f p1.toInt.toNat t + _; split <;> omega) (by omega) (by omega) (by omega) hP hD hS (lv_sub hl [1, 2, 3, 4, 0] rfl)
          exact HL99 (Tn + 1) 0 v23 v96 _ _ _ (by show _ = (0 : Int); omega) (by omega) (by omega) (by omega) hP hD hS (lv_sub hl [2, 3, 4, 1, 0] rfl)
        · skip
          refine lv_tableIn (off := 70) (tgt := 96) hx hb dX2_look_26 (by omega) (by omega) (by rw [w26]; rfl) (by decide) ?_
          refine c_iconst hx hb dX2_look_96 (by decide) (fun v96_2 i96_2 => ?_)
          refine lv_istore (lv' := [(4, .int v96_2), (3, .int v23), (0, .ref (ad 0)), (1, .int p1), (2, .int p2)]) hx hb dX2_look_97 hl (by decide) rfl (fun ls hl => ?_)
          have HL99 : ∀ (n : Nat) (t : Nat) (x3 : Int32) (x4 : Int32) (H : Heap) (locs : List Loc) (ls : Array Slot), (x3.toInt = sumR f 4 p1.toInt.toNat t) → (x4.toInt = (t : Int)) → (t ≤ Tn) → (Tn + 1 ≤ t + n) → va_P D vwCl (WM cI ad f ah bk bo mv T Dv C 0 mo) H → va_D A (WM cI ad f ah bk bo mv T Dv C 0 mo) → va_S A s.heap H locs → lv_has ls 5 [(0, .ref (ad 0)), (1, .int p1), (2, .int p2), (3, .int x3), (4, .int x4)] → W p l e ({ frames := 1, cells := 0, slots := 0, locals := 21 } : Room) s m [.ref (ad 0), .int p1, .int p2].toArray below meth c H locs 0 0 (MQ below (va_Qi (fun (r : Int32) (u : (Nat → Int32) × (Nat → Int32) × (Nat → Int32) × (Nat → Int32) × Int32 × Int32) => LK f Tn Dn p1.toInt p2.toInt u.2.2.2.2.1.toInt r.toInt) (cB D [(cI, .int)] A (fun u : (Nat → Int32) × (Nat → Int32) × (Nat → Int32) × (Nat → Int32) × Int32 × Int32 => (WM cI ad f u.1 u.2.1 u.2.2.1 u.2.2.2.1 T Dv C u.2.2.2.2.1 u.2.2.2.2.2))) A) [.ref (ad 0), .int p1, .int p2].toArray s 0 0 A) (F0 m 99 ls []) := by
            intro n
            induction n with
            | zero => intro t x3 x4 H locs ls hx3 hx4 ht hms; exact absurd hms (by omega)
            | succ n ih99 =>
              intro t x3 x4 H locs ls hx3 hx4 ht hms hP hD hS hl
              refine lv_iload hx hb dX2_look_99 (lv_at hl 4 rfl) ?_
              refine lv_aload_n hx hb dX2_look_101 rfl (lv_at hl 0 rfl) ?_
              refine va_get (D := D) (ci := 2) (v := .int T) (C := RX2) (T := TX2) (N := 21) hx hb hts inX2 hown hK hP 0 rfl rfl 0 (by decide) fl7 (fun _ h9 => h9) rfl dX2_look_102 ?_
              refine c_icmp_ge (tgt := 176) hx hb dX2_look_105 (by decide) (fun c105_2 => ?_) (fun c105_2 => ?_)
              · skip
                refine lv_iload_n hx hb dX2_look_176 rfl (lv_at hl 3 rfl) ?_
                exact c_ri (ah, bk, bo, mv, 0, mo) hx hb hr hlocks hK hP hD hS dX2_look_177 (by
                            refine Or.inr (Or.inr ⟨by omega, rfl, Or.inr (Or.inr (Or.inr (Or.inr (Or.inr (Or.inl ⟨by omega, ?_⟩)))))⟩)
                            rw [show Tn = t by omega]; exact hx3)
              · skip
                have hcb := sumR_bd hI (k := 4) (d := p1.toInt.toNat) (by omega) (by omega) t (by omega)
                have n1 := hIr (60 * p1.toInt.toNat + t) (by omega)
                refine lv_aload_n hx hb dX2_look_108 rfl (lv_at hl 0 rfl) ?_
                refine va_get (D := D) (ci := 2) (v := .ref (ad 5)) (C := RX2) (T := TX2) (N := 21) hx hb hts inX2 hown hK hP 0 rfl rfl 6 (by decide) fl26 (fun _ h9 => h9) rfl dX2_look_109 ?_
                refine c_bipush hx hb dX2_look_112 (by decide) (fun v112_2 i112_2 => ?_)
                refine lv_iload_n hx hb dX2_look_114 rfl (lv_at hl 1 rfl) ?_
                refine c_imul (a := 60) (b := p1.toInt) hx hb dX2_look_115 (by omega) rfl (by omega) (fun v115_2 i115_2 => ?_)
                refine lv_iload hx hb dX2_look_116 (lv_at hl 4 rfl) ?_
                refine c_iadd hx hb dX2_look_118 (by omega) (fun v118_2 i118_2 => ?_)
                refine c_iald hx hb hK hP 5 0 rfl rfl (60 * p1.toInt.toNat + t) (by omega) (by omega) dX2_look_119 (fun v119_2 e119_2 => ?_)
                have i119_2 : v119_2.toInt = ((f 4) (60 * p1.toInt.toNat + t)).toInt := by rw [e119_2]
                refine c_if_ge (tgt := 126) hx hb dX2_look_120 (by decide) (fun c120_2 => ?_) (fun c120_2 => ?_)
                · skip
                  refine lv_iload_n hx hb dX2_look_126 rfl (lv_at hl 3 rfl) ?_
                  refine lv_iload_n hx hb dX2_look_127 rfl (lv_at hl 2 rfl) ?_
                  refine c_iconst hx hb dX2_look_128 (by decide) (fun v128_2 i128_2 => ?_)
                  refine c_icmp_ne (tgt := 136) hx hb dX2_look_129 (by decide) (fun c129_2 => ?_) (fun c129_2 => absurd c129_2 (by omega))
                  refine lv_iload_n hx hb dX2_look_136 rfl (lv_at hl 2 rfl) ?_
                  refine c_iconst hx hb dX2_look_137 (by decide) (fun v137 i137 => ?_)
                  refine c_icmp_ne (tgt := 156) hx hb dX2_look_138 (by decide) (fun c138 => absurd c138 (by omega)) (fun c138 => ?_)
                  refine lv_aload_n hx hb dX2_look_141 rfl (lv_at hl 0 rfl) ?_
                  refine va_get (D := D) (ci := 2) (v := .ref (ad 5)) (C := RX2) (T := TX2) (N := 21) hx hb hts inX2 hown hK hP 0 rfl rfl 6 (by decide) fl26 (fun _ h9 => h9) rfl dX2_look_142 ?_
                  refine c_bipush hx hb dX2_look_145 (by decide) (fun v145 i145 => ?_)
                  refine lv_iload_n hx hb dX2_look_147 rfl (lv_at hl 1 rfl) ?_
                  refine c_imul (a := 60) (b := p1.toInt) hx hb dX2_look_148 (by omega) rfl (by omega) (fun v148 i148 => ?_)
                  refine lv_iload hx hb dX2_look_149 (lv_at hl 4 rfl) ?_
                  refine c_iadd hx hb dX2_look_151 (by omega) (fun v151 i151 => ?_)
                  refine c_iald hx hb hK hP 5 0 rfl rfl (60 * p1.toInt.toNat + t) (by omega) (by omega) dX2_look_152 (fun v152 e152 => ?_)
                  have i152 : v152.toInt = ((f 4) (60 * p1.toInt.toNat + t)).toInt := by rw [e152]
                  refine lv_goto (tgt := 168) hx hb dX2_look_153 (by decide) ?_
                  refine c_iadd hx hb dX2_look_168 (by omega) (fun v168_2 i168_2 => ?_)
                  refine lv_istore_n (lv' := [(3, .int v168_2), (0, .ref (ad 0)), (1, .int p1), (2, .int p2), (4, .int x4)]) hx hb dX2_look_169 rfl hl (by decide) rfl (fun ls hl => ?_)
                  refine c_iinc (k := 4) hx hb (fun v170_3 => [(4, .int v170_3), (3, .int v168_2), (0, .ref (ad 0)), (1, .int p1), (2, .int p2)]) dX2_look_170 hl rfl (by decide) (by omega) (by decide) (fun _ => rfl) (fun v170_3 ls i170_3 hl => ?_)
                  have hl : lv_has ls 5 [(4, .int v170_3), (3, .int v168_2), (0, .ref (ad 0)), (1, .int p1), (2, .int p2)] := hl
                  refine lv_goto (tgt := 99) hx hb dX2_look_173 (by decide) ?_
                  exact ih99 (t + 1) v168_2 v170_3 _ _ _ (by show _ = sumR f 4 p1.toInt.toNat t + _; split <;> omega) (by omega) (by omega) (by omega) hP hD hS (lv_sub hl [2, 3, 4, 1, 0] rfl)
                · skip
                  refine lv_goto (tgt := 170) hx hb dX2_look_123 (by decide) ?_
                  refine c_iinc (k := 4) hx hb (fun v170_4 => [(4, .int v170_4), (0, .ref (ad 0)), (1, .int p1), (2, .int p2), (3, .int x3)]) dX2_look_170 hl rfl (by decide) (by omega) (by decide) (fun _ => rfl) (fun v170_4 ls i170_4 hl => ?_)
                  have hl : lv_has ls 5 [(4, .int v170_4), (0, .ref (ad 0)), (1, .int p1), (2, .int p2), (3, .int x3)] := hl
                  refine lv_goto (tgt := 99) hx hb dX2_look_173 (by decide) ?_
                  exact ih99 (t + 1) x3 v170_4 _ _ _ (by show _ = sumR f 4 p1.toInt.toNat t + _; split <;> omega) (by omega) (by omega) (by omega) hP hD hS (lv_sub hl [1, 2, 3, 4, 0] rfl)
          exact HL99 (Tn + 1) 0 v23 v96_2 _ _ _ (by show _ = (0 : Int); omega) (by omega) (by omega) (by omega) hP hD hS (lv_sub hl [2, 3, 4, 1, 0] rfl)
        · skip
          refine lv_tableIn (off := 70) (tgt := 96) hx hb dX2_look_26 (by omega) (by omega) (by rw [w26]; rfl) (by decide) ?_
          refine c_iconst hx hb dX2_look_96 (by decide) (fun v96_3 i96_3 => ?_)
          refine lv_istore (lv' := [(4, .int v96_3), (3, .int v23), (0, .ref (ad 0)), (1, .int p1), (2, .int p2)]) hx hb dX2_look_97 hl (by decide) rfl (fun ls hl => ?_)
          have HL99 : ∀ (n : Nat) (t : Nat) (x3 : Int32) (x4 : Int32) (H : Heap) (locs : List Loc) (ls : Array Slot), (x3.toInt = sumR f 5 p1.toInt.toNat t) → (x4.toInt = (t : Int)) → (t ≤ Tn) → (Tn + 1 ≤ t + n) → va_P D vwCl (WM cI ad f ah bk bo mv T Dv C 0 mo) H → va_D A (WM cI ad f ah bk bo mv T Dv C 0 mo) → va_S A s.heap H locs → lv_has ls 5 [(0, .ref (ad 0)), (1, .int p1), (2, .int p2), (3, .int x3), (4, .int x4)] → W p l e ({ frames := 1, cells := 0, slots := 0, locals := 21 } : Room) s m [.ref (ad 0), .int p1, .int p2].toArray below meth c H locs 0 0 (MQ below (va_Qi (fun (r : Int32) (u : (Nat → Int32) × (Nat → Int32) × (Nat → Int32) × (Nat → Int32) × Int32 × Int32) => LK f Tn Dn p1.toInt p2.toInt u.2.2.2.2.1.toInt r.toInt) (cB D [(cI, .int)] A (fun u : (Nat → Int32) × (Nat → Int32) × (Nat → Int32) × (Nat → Int32) × Int32 × Int32 => (WM cI ad f u.1 u.2.1 u.2.2.1 u.2.2.2.1 T Dv C u.2.2.2.2.1 u.2.2.2.2.2))) A) [.ref (ad 0), .int p1, .int p2].toArray s 0 0 A) (F0 m 99 ls []) := by
            intro n
            induction n with
            | zero => intro t x3 x4 H locs ls hx3 hx4 ht hms; exact absurd hms (by omega)
            | succ n ih99 =>
              intro t x3 x4 H locs ls hx3 hx4 ht hms hP hD hS hl
              refine lv_iload hx hb dX2_look_99 (lv_at hl 4 rfl) ?_
              refine lv_aload_n hx hb dX2_look_101 rfl (lv_at hl 0 rfl) ?_
              refine va_get (D := D) (ci := 2) (v := .int T) (C := RX2) (T := TX2) (N := 21) hx hb hts inX2 hown hK hP 0 rfl rfl 0 (by decide) fl7 (fun _ h9 => h9) rfl dX2_look_102 ?_
              refine c_icmp_ge (tgt := 176) hx hb dX2_look_105 (by decide) (fun c105_3 => ?_) (fun c105_3 => ?_)
              · skip
                refine lv_iload_n hx hb dX2_look_176 rfl (lv_at hl 3 rfl) ?_
                exact c_ri (ah, bk, bo, mv, 0, mo) hx hb hr hlocks hK hP hD hS dX2_look_177 (by
                            refine Or.inr (Or.inr ⟨by omega, rfl, Or.inr (Or.inr (Or.inr (Or.inr (Or.inr (Or.inr ⟨by omega, ?_⟩)))))⟩)
                            rw [show Tn = t by omega]; exact hx3)
              · skip
                have hcb := sumR_bd hI (k := 5) (d := p1.toInt.toNat) (by omega) (by omega) t (by omega)
                have n1 := hIr (60 * p1.toInt.toNat + t) (by omega)
                refine lv_aload_n hx hb dX2_look_108 rfl (lv_at hl 0 rfl) ?_
                refine va_get (D := D) (ci := 2) (v := .ref (ad 5)) (C := RX2) (T := TX2) (N := 21) hx hb hts inX2 hown hK hP 0 rfl rfl 6 (by decide) fl26 (fun _ h9 => h9) rfl dX2_look_109 ?_
                refine c_bipush hx hb dX2_look_112 (by decide) (fun v112_3 i112_3 => ?_)
                refine lv_iload_n hx hb dX2_look_114 rfl (lv_at hl 1 rfl) ?_
                refine c_imul (a := 60) (b := p1.toInt) hx hb dX2_look_115 (by omega) rfl (by omega) (fun v115_3 i115_3 => ?_)
                refine lv_iload hx hb dX2_look_116 (lv_at hl 4 rfl) ?_
                refine c_iadd hx hb dX2_look_118 (by omega) (fun v118_3 i118_3 => ?_)
                refine c_iald hx hb hK hP 5 0 rfl rfl (60 * p1.toInt.toNat + t) (by omega) (by omega) dX2_look_119 (fun v119_3 e119_3 => ?_)
                have i119_3 : v119_3.toInt = ((f 4) (60 * p1.toInt.toNat + t)).toInt := by rw [e119_3]
                refine c_if_ge (tgt := 126) hx hb dX2_look_120 (by decide) (fun c120_3 => ?_) (fun c120_3 => ?_)
                · skip
                  refine lv_iload_n hx hb dX2_look_126 rfl (lv_at hl 3 rfl) ?_
                  refine lv_iload_n hx hb dX2_look_127 rfl (lv_at hl 2 rfl) ?_
                  refine c_iconst hx hb dX2_look_128 (by decide) (fun v128_3 i128_3 => ?_)
                  refine c_icmp_ne (tgt := 136) hx hb dX2_look_129 (by decide) (fun c129_3 => ?_) (fun c129_3 => absurd c129_3 (by omega))
                  refine lv_iload_n hx hb dX2_look_136 rfl (lv_at hl 2 rfl) ?_
                  refine c_iconst hx hb dX2_look_137 (by decide) (fun v137_2 i137_2 => ?_)
                  refine c_icmp_ne (tgt := 156) hx hb dX2_look_138 (by decide) (fun c138_2 => ?_) (fun c138_2 => absurd c138_2 (by omega))
                  refine lv_aload_n hx hb dX2_look_156 rfl (lv_at hl 0 rfl) ?_
                  refine va_get (D := D) (ci := 2) (v := .ref (ad 6)) (C := RX2) (T := TX2) (N := 21) hx hb hts inX2 hown hK hP 0 rfl rfl 7 (by decide) fl29 (fun _ h9 => h9) rfl dX2_look_157 ?_
                  refine c_bipush hx hb dX2_look_160 (by decide) (fun v160 i160 => ?_)
                  refine lv_iload_n hx hb dX2_look_162 rfl (lv_at hl 1 rfl) ?_
                  refine c_imul (a := 60) (b := p1.toInt) hx hb dX2_look_163 (by omega) rfl (by omega) (fun v163 i163 => ?_)
                  refine lv_iload hx hb dX2_look_164 (lv_at hl 4 rfl) ?_
                  refine c_iadd hx hb dX2_look_166 (by omega) (fun v166 i166 => ?_)
                  refine c_iald hx hb hK hP 6 0 rfl rfl (60 * p1.toInt.toNat + t) (by omega) (by omega) dX2_look_167 (fun v167 e167 => ?_)
                  have i167 : v167.toInt = ((f 5) (60 * p1.toInt.toNat + t)).toInt := by rw [e167]
                  refine c_iadd hx hb dX2_look_168 (by omega) (fun v168_3 i168_3 => ?_)
                  refine lv_istore_n (lv' := [(3, .int v168_3), (0, .ref (ad 0)), (1, .int p1), (2, .int p2), (4, .int x4)]) hx hb dX2_look_169 rfl hl (by decide) rfl (fun ls hl => ?_)
                  refine c_iinc (k := 4) hx hb (fun v170_5 => [(4, .int v170_5), (3, .int v168_3), (0, .ref (ad 0)), (1, .int p1), (2, .int p2)]) dX2_look_170 hl rfl (by decide) (by omega) (by decide) (fun _ => rfl) (fun v170_5 ls i170_5 hl => ?_)
                  have hl : lv_has ls 5 [(4, .int v170_5), (3, .int v168_3), (0, .ref (ad 0)), (1, .int p1), (2, .int p2)] := hl
                  refine lv_goto (tgt := 99) hx hb dX2_look_173 (by decide) ?_
                  exact ih99 (t + 1) v168_3 v170_5 _ _ _ (by show _ = sumR f 5 p1.toInt.toNat t + _; split <;> omega) (by omega) (by omega) (by omega) hP hD hS (lv_sub hl [2, 3, 4, 1, 0] rfl)
                · skip
                  refine lv_goto (tgt := 170) hx hb dX2_look_123 (by decide) ?_
                  refine c_iinc (k := 4) hx hb (fun v170_6 => [(4, .int v170_6), (0, .ref (ad 0)), (1, .int p1), (2, .int p2), (3, .int x3)]) dX2_look_170 hl rfl (by decide) (by omega) (by decide) (fun _ => rfl) (fun v170_6 ls i170_6 hl => ?_)
                  have hl : lv_has ls 5 [(4, .int v170_6), (0, .ref (ad 0)), (1, .int p1), (2, .int p2), (3, .int x3)] := hl
                  refine lv_goto (tgt := 99) hx hb dX2_look_173 (by decide) ?_
                  exact ih99 (t + 1) x3 v170_6 _ _ _ (by show _ = sumR f 5 p1.toInt.toNat t + _; split <;> omega) (by omega) (by omega) (by omega) hP hD hS (lv_sub hl [1, 2, 3, 4, 0] rfl)
          exact HL99 (Tn + 1) 0 v23 v96_3 _ _ _ (by show _ = (0 : Int); omega) (by omega) (by omega) (by omega) hP hD hS (lv_sub hl [2, 3, 4, 1, 0] rfl)
    · skip
      refine lv_aload_n hx hb dX2_look_17 rfl (lv_at hl 0 rfl) ?_
      refine c_iconst hx hb dX2_look_18 (by decide) (fun v18_2 i18_2 => ?_)
      refine c_wvi (As := [.int v18_2]) (ci := 2) (q0 := 0) (kX2_fails l D cI ad f ah bk bo mv T Dv C 0 mo v18_2) ⟨hx, hb, hml, hown, hts⟩ (cwV 1 hts gX2_look_X2_fails rfl rfl rfl (by decide +kernel) ⟨Nat.le_of_ble_eq_true rfl, Nat.le_of_ble_eq_true rfl⟩) hK hP hD hS hA rfl rfl rfl rfl hl.1 rfl (Nat.le_of_ble_eq_true rfl) dX2_look_19 ⟨Nat.zero_le _, Nat.zero_le _⟩ (fun r19_2 u19_2 H locs q19_2 hP hD hS => ?_)
      try dsimp only at q19_2
      have hP : va_P D vwCl (WM cI ad f ah bk bo mv T Dv C v18_2 mo) H := hP
      have hD : va_D A (WM cI ad f ah bk bo mv T Dv C v18_2 mo) := hD
      exact c_ri (ah, bk, bo, mv, v18_2, mo) hx hb hr hlocks hK hP hD hS dX2_look_22 (Or.inl ⟨by omega, by (try dsimp only); omega⟩)
set_option maxHeartbeats 4000000 in
set_option maxRecDepth 100000 in
theorem kX2_count (l : Launch) (D : va_G) (cI : ClassId) (ad : Nat → Nat) (f : Nat → Nat → Int32) (ah : Nat → Int32) (bk : Nat → Int32) (bo : Nat → Int32) (mv : Nat → Int32) (T : Int32) (Dv : Int32) (C : Int32) (th : Int32) (mo : Int32) (Tn : Nat) (Dn : Nat) (Cn : Nat) (p1 : Int32) (hT : T.toInt = (Tn : Int)) (hDv : Dv.toInt = (Dn : Int)) (hC : C.toInt = (Cn : Int)) (hI : Inv f Tn Dn Cn) : MI l yX2_count wsX2_count ({ frames := 0, cells := 0, slots := 0, locals := 0 } : Room) D [(cI, .int)] [.ref (ad 0), .int p1] (WM cI ad f ah bk bo mv T Dv C th mo) (fun u : Unit => (WM cI ad f ah bk bo mv T Dv C 0 mo)) (fun (r : Int32) (_ : Unit) => CN f Tn Dn Cn p1.toInt r.toInt) := by
  refine c_ent (cc := cX2_count) (maxL := 5) (ret := (some .int)) (Qc := fun A => va_Qi (fun (r : Int32) (_ : Unit) => CN f Tn Dn Cn p1.toInt r.toInt) (cB D [(cI, .int)] A (fun u : Unit => (WM cI ad f ah bk bo mv T Dv C 0 mo))) A) (by decide) rfl (Nat.le_of_ble_eq_true rfl) ?_
  intro p e s m below meth c A ls hx hb hr hlocks hts hown hml hK hP hD hA hl
  have hS : va_S A s.heap s.heap [] := va_S.rf
  have hl : lv_has ls 5 [(0, .ref (ad 0)), (1, .int p1)] := hl
  have hP : va_P D vwCl (WM cI ad f ah bk bo mv T Dv C th mo) s.heap := hP
  have fl7 := hts (.fieldLink RX2 7 "DoorBenchModel" "ticks" "I") (by decide +kernel)
  have fl26 := hts (.fieldLink RX2 26 "DoorBenchModel" "in" "[I") (by decide +kernel)
  have fl66 := hts (.fieldLink RX2 66 "DoorBenchModel" "thrown" "I") (by decide +kernel)
  have fl69 := hts (.fieldLink RX2 69 "DoorBenchModel" "doors" "I") (by decide +kernel)
  have fl72 := hts (.fieldLink RX2 72 "DoorBenchModel" "checks" "I") (by decide +kernel)
  have inX2 : ∀ w ∈ wsX20, w ∈ wsX2_count := by decide +kernel
  obtain ⟨hI0, hId, hIr, hIs, hIc⟩ := id hI
  refine lv_aload_n hx hb dX2_count_0 rfl (lv_at hl 0 rfl) ?_
  refine c_iconst hx hb dX2_count_1 (by decide) (fun v1 i1 => ?_)
  obtain rfl : v1 = 0 := t_inj (by rw [i1]; rfl)
  refine c_put (D := D) (ci := 2) (C := RX2) (T := TX2) (N := 21) hx hb hts inX2 tyX2 tyX2_ok nmX2 hown hK hP hD hS 0 rfl rfl 15 (by decide) fl66 (fun _ h9 => h9) rfl (by decide +kernel) (Nat.le_of_ble_eq_true rfl) (WM cI ad f ah bk bo mv T Dv C 0 mo) rfl dX2_count_2 (fun H locs hP hD hS => ?_)
  refine c_iconst hx hb dX2_count_5 (by decide) (fun v5 i5 => ?_)
  refine lv_istore_n (lv' := [(2, .int v5), (0, .ref (ad 0)), (1, .int p1)]) hx hb dX2_count_6 rfl hl (by decide) rfl (fun ls hl => ?_)
  refine lv_iload_n hx hb dX2_count_7 rfl (lv_at hl 2 rfl) ?_
  by_cases o8 : p1.toInt < 0 ∨ 3 < p1.toInt
  · skip
    refine lv_tableOut (tgt := 114) hx hb dX2_count_8 o8 (by decide) ?_
    refine c_iconst hx hb dX2_count_114 (by decide) (fun v114 i114 => ?_)
    exact c_ri () hx hb hr hlocks hK hP hD hS dX2_count_115 (by (try dsimp only); unfold CN; omega)
  · skip
    rcases (show p1.toInt = 0 ∨ p1.toInt = 1 ∨ p1.toInt = 2 ∨ p1.toInt = 3 by omega) with w8 | w8 | w8 | w8
    · skip
      refine lv_tableIn (off := 32) (tgt := 40) hx hb dX2_count_8 (by omega) (by omega) (by rw [w8]; rfl) (by decide) ?_
      refine lv_aload_n hx hb dX2_count_40 rfl (lv_at hl 1 rfl) ?_
      refine va_get (D := D) (ci := 2) (v := .int T) (C := RX2) (T := TX2) (N := 21) hx hb hts inX2 hown hK hP 0 rfl rfl 0 (by decide) fl7 (fun _ h9 => h9) rfl dX2_count_41 ?_
      exact c_ri () hx hb hr hlocks hK hP hD hS dX2_count_44 (by (try dsimp only); unfold CN; omega)
    · skip
      refine lv_tableIn (off := 37) (tgt := 45) hx hb dX2_count_8 (by omega) (by omega) (by rw [w8]; rfl) (by decide) ?_
      refine lv_aload_n hx hb dX2_count_45 rfl (lv_at hl 1 rfl) ?_
      refine va_get (D := D) (ci := 2) (v := .int Dv) (C := RX2) (T := TX2) (N := 21) hx hb hts inX2 hown hK hP 0 rfl rfl 1 (by decide) fl69 (fun _ h9 => h9) rfl dX2_count_46 ?_
      exact c_ri () hx hb hr hlocks hK hP hD hS dX2_count_49 (by (try dsimp only); unfold CN; omega)
    · skip
      refine lv_tableIn (off := 42) (tgt := 50) hx hb dX2_count_8 (by omega) (by omega) (by rw [w8]; rfl) (by decide) ?_
      refine lv_aload_n hx hb dX2_count_50 rfl (lv_at hl 1 rfl) ?_
      refine va_get (D := D) (ci := 2) (v := .int C) (C := RX2) (T := TX2) (N := 21) hx hb hts inX2 hown hK hP 0 rfl rfl 10 (by decide) fl72 (fun _ h9 => h9) rfl dX2_count_51 ?_
      exact c_ri () hx hb hr hlocks hK hP hD hS dX2_count_54 (by (try dsimp only); unfold CN; omega)
    · skip
      refine lv_tableIn (off := 47) (tgt := 55) hx hb dX2_count_8 (by omega) (by omega) (by rw [w8]; rfl) (by decide) ?_
      refine c_iconst hx hb dX2_count_55 (by decide) (fun v55 i55 => ?_)
      refine lv_istore_n (lv' := [(3, .int v55), (2, .int v5), (0, .ref (ad 0)), (1, .int p1)]) hx hb dX2_count_56 rfl hl (by decide) rfl (fun ls hl => ?_)
      have HL57 : ∀ (n : Nat) (d : Nat) (x2 : Int32) (x3 : Int32) (H : Heap) (locs : List Loc) (ls : Array Slot), (x2.toInt = cntA f Tn d) → (x3.toInt = (d : Int)) → (d ≤ Dn) → (Dn + 1 ≤ d + n) → va_P D vwCl (WM cI ad f ah bk bo mv T Dv C 0 mo) H → va_D A (WM cI ad f ah bk bo mv T Dv C 0 mo) → va_S A s.heap H locs → lv_has ls 5 [(0, .ref (ad 0)), (1, .int p1), (2, .int x2), (3, .int x3)] → W p l e ({ frames := 0, cells := 0, slots := 0, locals := 0 } : Room) s m [.ref (ad 0), .int p1].toArray below meth c H locs 0 0 (MQ below (va_Qi (fun (r : Int32) (_ : Unit) => CN f Tn Dn Cn p1.toInt r.toInt) (cB D [(cI, .int)] A (fun u : Unit => (WM cI ad f ah bk bo mv T Dv C 0 mo))) A) [.ref (ad 0), .int p1].toArray s 0 0 A) (F0 m 57 ls []) := by
        intro n
        induction n with
        | zero => intro d x2 x3 H locs ls hx2 hx3 hd hms; exact absurd hms (by omega)
        | succ n ih57 =>
          intro d x2 x3 H locs ls hx2 hx3 hd hms hP hD hS hl
          have hcb := cntA_bd f Tn d
          have hml2 : (Tn : Int) * (d : Int) ≤ 60 * (d : Int) := Int.mul_le_mul_of_nonneg_right (by omega) (by omega)
          generalize (Tn : Int) * (d : Int) = zz at hcb hml2
          refine lv_iload_n hx hb dX2_count_57 rfl (lv_at hl 3 rfl) ?_
          refine lv_aload_n hx hb dX2_count_58 rfl (lv_at hl 0 rfl) ?_
          refine va_get (D := D) (ci := 2) (v := .int Dv) (C := RX2) (T := TX2) (N := 21) hx hb hts inX2 hown hK hP 0 rfl rfl 1 (by decide) fl69 (fun _ h9 => h9) rfl dX2_count_59 ?_
          refine c_icmp_ge (tgt := 112) hx hb dX2_count_62 (by decide) (fun c62 => ?_) (fun c62 => ?_)
          · skip
            refine lv_iload_n hx hb dX2_count_112 rfl (lv_at hl 2 rfl) ?_
            exact c_ri () hx hb hr hlocks hK hP hD hS dX2_count_113 (by (try dsimp only); unfold CN; rw [show Dn = d by omega]; omega)
          · skip
            refine c_iconst hx hb dX2_count_65 (by decide) (fun v65 i65 => ?_)
            refine lv_istore (lv' := [(4, .int v65), (0, .ref (ad 0)), (1, .int p1), (2, .int x2), (3, .int x3)]) hx hb dX2_count_66 hl (by decide) rfl (fun ls hl => ?_)
            have HL68 : ∀ (n : Nat) (t : Nat) (y2 : Int32) (y4 : Int32) (H : Heap) (locs : List Loc) (ls : Array Slot), (y2.toInt = cntA f Tn d + cntR f d t) → (y4.toInt = (t : Int)) → (t ≤ Tn) → (Tn + 1 ≤ t + n) → va_P D vwCl (WM cI ad f ah bk bo mv T Dv C 0 mo) H → va_D A (WM cI ad f ah bk bo mv T Dv C 0 mo) → va_S A s.heap H locs → lv_has ls 5 [(0, .ref (ad 0)), (1, .int p1), (2, .int y2), (3, .int x3), (4, .int y4)] → W p l e ({ frames := 0, cells := 0, slots := 0, locals := 0 } : Room) s m [.ref (ad 0), .int p1].toArray below meth c H locs 0 0 (MQ below (va_Qi (fun (r : Int32) (_ : Unit) => CN f Tn Dn Cn p1.toInt r.toInt) (cB D [(cI, .int)] A (fun u : Unit => (WM cI ad f ah bk bo mv T Dv C 0 mo))) A) [.ref (ad 0), .int p1].toArray s 0 0 A) (F0 m 68 ls []) := by
              intro n
              induction n with
              | zero => intro t y2 y4 H locs ls hx2b hy4 ht hmt; exact absurd hmt (by omega)
              | succ n ih68 =>
                intro t y2 y4 H locs ls hx2b hy4 ht hmt hP hD hS hl
                have hcr := cntR_bd f d t
                have n1 := hIr (60 * d + t)
                refine lv_iload hx hb dX2_count_68 (lv_at hl 4 rfl) ?_
                refine lv_aload_n hx hb dX2_count_70 rfl (lv_at hl 0 rfl) ?_
                refine va_get (D := D) (ci := 2) (v := .int T) (C := RX2) (T := TX2) (N := 21) hx hb hts inX2 hown hK hP 0 rfl rfl 0 (by decide) fl7 (fun _ h9 => h9) rfl dX2_count_71 ?_
                refine c_icmp_ge (tgt := 106) hx hb dX2_count_74 (by decide) (fun c74 => ?_) (fun c74 => ?_)
                · skip
                  refine c_iinc (k := 3) hx hb (fun v106 => [(3, .int v106), (0, .ref (ad 0)), (1, .int p1), (2, .int y2), (4, .int y4)]) dX2_count_106 hl rfl (by decide) (by omega) (by decide) (fun _ => rfl) (fun v106 ls i106 hl => ?_)
                  have hl : lv_has ls 5 [(3, .int v106), (0, .ref (ad 0)), (1, .int p1), (2, .int y2), (4, .int y4)] := hl
                  refine lv_goto (tgt := 57) hx hb dX2_count_109 (by decide) ?_
                  exact ih57 (d + 1) y2 v106 _ _ _ (by show _ = cntA f Tn d + cntR f d Tn; rw [show Tn = t by omega] at hx2b ⊢; omega) (by omega) (by omega) (by omega) hP hD hS (lv_sub hl [1, 2, 3, 0] rfl)
                · skip
                  refine lv_iload_n hx hb dX2_count_77 rfl (lv_at hl 2 rfl) ?_
                  refine lv_aload_n hx hb dX2_count_78 rfl (lv_at hl 0 rfl) ?_
                  refine va_get (D := D) (ci := 2) (v := .ref (ad 5)) (C := RX2) (T := TX2) (N := 21) hx hb hts inX2 hown hK hP 0 rfl rfl 6 (by decide) fl26 (fun _ h9 => h9) rfl dX2_count_79 ?_
                  refine c_bipush hx hb dX2_count_82 (by decide) (fun v82 i82 => ?_)
                  refine lv_iload_n hx hb dX2_count_84 rfl (lv_at hl 3 rfl) ?_
                  refine c_imul (a := 60) (b := x3.toInt) hx hb dX2_count_85 (by omega) rfl (by omega) (fun v85 i85 => ?_)
                  refine lv_iload hx hb dX2_count_86 (lv_at hl 4 rfl) ?_
                  refine c_iadd hx hb dX2_count_88 (by omega) (fun v88 i88 => ?_)
                  refine c_iald hx hb hK hP 5 0 rfl rfl (60 * d + t) (by omega) (by omega) dX2_count_89 (fun v89 e89 => ?_)
                  have i89 : v89.toInt = ((f 4) (60 * d + t)).toInt := by rw [e89]
                  refine c_if_lt (tgt := 97) hx hb dX2_count_90 (by decide) (fun c90 => ?_) (fun c90 => ?_)
                  · skip
                    refine c_iconst hx hb dX2_count_97 (by decide) (fun v97 i97 => ?_)
                    refine c_iadd hx hb dX2_count_98 (by omega) (fun v98 i98 => ?_)
                    refine lv_istore_n (lv' := [(2, .int v98), (0, .ref (ad 0)), (1, .int p1), (3, .int x3), (4, .int y4)]) hx hb dX2_count_99 rfl hl (by decide) rfl (fun ls hl => ?_)
                    refine c_iinc (k := 4) hx hb (fun v100 => [(4, .int v100), (2, .int v98), (0, .ref (ad 0)), (1, .int p1), (3, .int x3)]) dX2_count_100 hl rfl (by decide) (by omega) (by decide) (fun _ => rfl) (fun v100 ls i100 hl => ?_)
                    have hl : lv_has ls 5 [(4, .int v100), (2, .int v98), (0, .ref (ad 0)), (1, .int p1), (3, .int x3)] := hl
                    refine lv_goto (tgt := 68) hx hb dX2_count_103 (by decide) ?_
                    exact ih68 (t + 1) v98 v100 _ _ _ (by show _ = cntA f Tn d + (cntR f d t + _); split <;> omega) (by omega) (by omega) (by omega) hP hD hS (lv_sub hl [2, 3, 1, 4, 0] rfl)
                  · skip
                    refine c_iconst hx hb dX2_count_93 (by decide) (fun v93 i93 => ?_)
                    refine lv_goto (tgt := 98) hx hb dX2_count_94 (by decide) ?_
                    refine c_iadd hx hb dX2_count_98 (by omega) (fun v98_2 i98_2 => ?_)
                    refine lv_istore_n (lv' := [(2, .int v98_2), (0, .ref (ad 0)), (1, .int p1), (3, .int x3), (4, .int y4)]) hx hb dX2_count_99 rfl hl (by decide) rfl (fun ls hl => ?_)
                    refine c_iinc (k := 4) hx hb (fun v100_2 => [(4, .int v100_2), (2, .int v98_2), (0, .ref (ad 0)), (1, .int p1), (3, .int x3)]) dX2_count_100 hl rfl (by decide) (by omega) (by decide) (fun _ => rfl) (fun v100_2 ls i100_2 hl => ?_)
                    have hl : lv_has ls 5 [(4, .int v100_2), (2, .int v98_2), (0, .ref (ad 0)), (1, .int p1), (3, .int x3)] := hl
                    refine lv_goto (tgt := 68) hx hb dX2_count_103 (by decide) ?_
                    exact ih68 (t + 1) v98_2 v100_2 _ _ _ (by show _ = cntA f Tn d + (cntR f d t + _); split <;> omega) (by omega) (by omega) (by omega) hP hD hS (lv_sub hl [2, 3, 1, 4, 0] rfl)
            exact HL68 (Tn + 1) 0 x2 v65 _ _ _ (by show _ = cntA f Tn d + (0 : Int); omega) (by omega) (by omega) (by omega) hP hD hS (lv_sub hl [1, 2, 3, 4, 0] rfl)
      exact HL57 (Dn + 1) 0 v5 v55 _ _ _ (by show _ = (0 : Int); omega) (by omega) (by omega) (by omega) hP hD hS (lv_sub hl [2, 3, 1, 0] rfl)
