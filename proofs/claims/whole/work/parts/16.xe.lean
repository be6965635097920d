theorem va_P_arr {D : va_G} {ws : va_W} {H : Heap} {q0 a n : Nat} {cA : ClassId} {f : Nat → Int32} (g : Nat → Int32) (hP : va_P D vwCl ws H) (ha : ws[q0]? = some (a, .inl (cA, n, .inl f))) (h : ∀ j, j < n → f j = g j) : va_P D vwCl (ws.set q0 (a, .inl (cA, n, .inl g))) H := by
  intro k q hk
  by_cases hq : q0 = k
  · subst hq
    have hl : q0 < ws.length := (List.getElem?_eq_some_iff.mp ha).1
    rw [List.getElem?_set_self hl] at hk
    cases hk
    have h0 := hP q0 _ ha
    show H[a]? = some (vp_cell cA (n, .inl g))
    have h1 : H[a]? = some (vp_cell cA (n, .inl f)) := h0
    rw [h1, vp_cell_i, vp_cell_i]
    have : (Array.ofFn (n := n) fun j => Value.int (f j.val)) = (Array.ofFn (n := n) fun j => Value.int (g j.val)) := by
      congr 1; funext j; rw [h j.val j.isLt]
    unfold arrV
    rw [this]
  · rw [List.getElem?_set_ne hq] at hk
    exact hP k q hk
def clr (f : Nat → Nat → Int32) : Nat → Nat → Int32 := st2 (st2 (st2 (st2 f 4 (fun _ => -1)) 5 (fun _ => -1)) 6 (fun _ => 0)) 7 (fun _ => 0)
def dorF (f : Nat → Nat → Int32) (d : Nat) (a b c e : Int32) : Nat → Nat → Int32 := up2 (up2 (up2 (up2 f 0 d a) 1 d b) 2 d c) 3 d e
def rowF (f : Nat → Nat → Int32) (j : Nat) (a b : Int32) : Nat → Nat → Int32 := up2 (up2 f 4 j a) 5 j b
def lck (f : Nat → Nat → Int32) (d a : Nat) : Nat → Nat → Nat → Int32
  | 0 => f
  | n + 1 => up2 (up2 (lck f d a n) 4 (60 * d + (a + n)) (-1)) 5 (60 * d + (a + n)) (-1)
def staF (f : Nat → Nat → Int32) (h : Nat) (a b : Int32) : Nat → Nat → Int32 := up2 (up2 f 6 h a) 7 h b
def chkF (f : Nat → Nat → Int32) (q : Nat) (a b c e : Int32) : Nat → Nat → Int32 := up2 (up2 (up2 (up2 f 8 q a) 9 q b) 10 q c) 11 q e
def cntR (f : Nat → Nat → Int32) (d : Nat) : Nat → Int
  | 0 => 0
  | t + 1 => cntR f d t + (if (f 4 (60 * d + t)).toInt < 0 then 0 else 1)
def sumR (f : Nat → Nat → Int32) (k d : Nat) : Nat → Int
  | 0 => 0
  | t + 1 => sumR f k d t + (if (f 4 (60 * d + t)).toInt < 0 then 0 else (f k (60 * d + t)).toInt)
def cntA (f : Nat → Nat → Int32) (Tn : Nat) : Nat → Int
  | 0 => 0
  | d + 1 => cntA f Tn d + cntR f d Tn
theorem cntR_bd (f : Nat → Nat → Int32) (d : Nat) : ∀ t, 0 ≤ cntR f d t ∧ cntR f d t ≤ (t : Int)
  | 0 => ⟨Int.le_refl 0, Int.le_refl 0⟩
  | t + 1 => by
    have h := cntR_bd f d t
    show 0 ≤ cntR f d t + _ ∧ cntR f d t + _ ≤ _
    split <;> omega
theorem cntA_bd (f : Nat → Nat → Int32) (Tn : Nat) : ∀ d, 0 ≤ cntA f Tn d ∧ cntA f Tn d ≤ (Tn : Int) * (d : Int)
  | 0 => ⟨Int.le_refl 0, by show (0 : Int) ≤ (Tn : Int) * (0 : Int); omega⟩
  | d + 1 => by
    have h := cntA_bd f Tn d; have g := cntR_bd f d Tn
    show 0 ≤ cntA f Tn d + cntR f d Tn ∧ cntA f Tn d + cntR f d Tn ≤ (Tn : Int) * ((d : Int) + 1)
    rw [Int.mul_add]; omega
theorem sumR_bd {f : Nat → Nat → Int32} {Tn Dn Cn : Nat} (hI : Inv f Tn Dn Cn) {k d : Nat} (hk : k = 4 ∨ k = 5) (hd : d < Dn) : ∀ t, t ≤ Tn → 0 ≤ sumR f k d t ∧ sumR f k d t ≤ 20 * (t : Int)
  | 0, _ => ⟨Int.le_refl 0, Int.le_refl 0⟩
  | t + 1, ht => by
    have h := sumR_bd hI hk hd t (by omega)
    have g := hI.2.2.1 (60 * d + t) (by have := hI.1; omega)
    show 0 ≤ sumR f k d t + _ ∧ sumR f k d t + _ ≤ _
    rcases hk with rfl | rfl <;> split <;> omega
def FT (f : Nat → Nat → Int32) (Tn Dn Cn : Nat) (r : Int) : Prop := ∃ (v : Int) (R : Nat → Nat → Int), LA f Tn Dn Cn 0 v R ∧ ((v = -1 ∧ r = 1) ∨ (v ≠ -1 ∧ r = 0))
def QR (f : Nat → Nat → Int32) (Tn Dn Cn : Nat) (r : Int) : Prop := ∃ (R : Nat → Nat → Int), LA f Tn Dn Cn 0 r R
def WR (f : Nat → Nat → Int32) (Tn Dn Cn : Nat) (r : Int) : Prop :=
  (∃ k : Nat, k ≤ 5 ∧ r = (k : Int) ∧ (∃ R, LA f Tn Dn Cn (k : Int) (-1) R) ∧ ∀ i : Nat, i < k → ∃ v R, LA f Tn Dn Cn (i : Int) v R ∧ v ≠ -1) ∨ (r = -1 ∧ ∀ i : Nat, i < 6 → ∃ v R, LA f Tn Dn Cn (i : Int) v R ∧ v ≠ -1)
def CN (f : Nat → Nat → Int32) (Tn Dn Cn : Nat) (p r : Int) : Prop := (p = 0 ∧ r = (Tn : Int)) ∨ (p = 1 ∧ r = (Dn : Int)) ∨ (p = 2 ∧ r = (Cn : Int)) ∨ (p = 3 ∧ r = cntA f Tn Dn) ∨ ((p < 0 ∨ 3 < p) ∧ r = -1)
set_option maxHeartbeats 4000000 in
set_option maxRecDepth 100000 in
theorem kJ7_fill_53178 (l : Launch) (D : va_G) (cI : ClassId) (aa : Nat) (zl : Nat) (g : Nat → Int32) (p1 : Int32) (hz : zl ≤ 1000) : MV l yJ7_fill_53178 wsJ7_fill_53178 ({ frames := 0, cells := 0, slots := 0, locals := 0 } : Room) D [(cI, .int)] [.ref aa, .int p1] (WA cI aa zl g) (fun u : Unit => (WA cI aa zl (fun _ => p1))) (fun (_ : Unit) => True) := by
  refine c_ent (cc := cJ7_fill_53178) (maxL := 4) (ret := none) (Qc := fun A => va_Qv (fun (_ : Unit) => True) (cB D [(cI, .int)] A (fun u : Unit => (WA cI aa zl (fun _ => p1)))) A) (by decide) rfl (Nat.le_of_ble_eq_true rfl) ?_
  intro p e s m below meth c A ls hx hb hr hlocks hts hown hml hK hP hD hA hl
  have hS : va_S A s.heap s.heap [] := va_S.rf
  have hl : lv_has ls 4 [(0, .ref aa), (1, .int p1)] := hl
  have hP : va_P D vwCl (WA cI aa zl g) s.heap := hP
  have hzl : (nI zl).toInt = (zl : Int) := t_nI (by omega)
  refine c_iconst hx hb dJ7_fill_53178_0 (by decide) (fun v0 i0 => ?_)
  refine lv_istore_n (lv' := [(2, .int v0), (0, .ref aa), (1, .int p1)]) hx hb dJ7_fill_53178_1 rfl hl (by decide) rfl (fun ls hl => ?_)
  refine lv_aload_n hx hb dJ7_fill_53178_2 rfl (lv_at hl 1 rfl) ?_
  refine va_alen (v := nI zl) hx hb hK hP 0 0 rfl rfl rfl dJ7_fill_53178_3 ?_
  refine lv_istore_n (lv' := [(3, .int (nI zl)), (2, .int v0), (0, .ref aa), (1, .int p1)]) hx hb dJ7_fill_53178_4 rfl hl (by decide) rfl (fun ls hl => ?_)
  have HL5 : ∀ (n : Nat) (k : Nat) (x2 : Int32) (g1 : Nat → Int32) (H : Heap) (locs : List Loc) (ls : Array Slot), (x2.toInt = (k : Int)) → (k ≤ zl) → (zl + 1 ≤ k + n) → (∀ j, j < k → g1 j = p1) → va_P D vwCl (WA cI aa zl g1) H → va_D A (WA cI aa zl g1) → va_S A s.heap H locs → lv_has ls 4 [(0, .ref aa), (1, .int p1), (2, .int x2), (3, .int (nI zl))] → W p l e ({ frames := 0, cells := 0, slots := 0, locals := 0 } : Room) s m [.ref aa, .int p1].toArray below meth c H locs 0 0 (MQ below (va_Qv (fun (_ : Unit) => True) (cB D [(cI, .int)] A (fun u : Unit => (WA cI aa zl (fun _ => p1)))) A) [.ref aa, .int p1].toArray s 0 0 A) (F0 m 5 ls []) := by
    intro n
    induction n with
    | zero => intro k x2 g1 H locs ls hx2 hk hms hva; exact absurd hms (by omega)
    | succ n ih5 =>
      intro k x2 g1 H locs ls hx2 hk hms hva hP hD hS hl
      refine lv_iload_n hx hb dJ7_fill_53178_5 rfl (lv_at hl 2 rfl) ?_
      refine lv_iload_n hx hb dJ7_fill_53178_6 rfl (lv_at hl 3 rfl) ?_
      refine c_icmp_ge (tgt := 20) hx hb dJ7_fill_53178_7 (by decide) (fun c7 => ?_) (fun c7 => ?_)
      · skip
        have hP := va_P_arr (fun _ => p1) hP (q0 := 0) rfl (fun j hj => hva j (by omega))
        have hD := va_D.set (e := .inl (cI, zl, .inl (fun _ => p1))) hD (p := 0) rfl
        have hP : va_P D vwCl (WA cI aa zl (fun _ => p1)) H := hP
        have hD : va_D A (WA cI aa zl (fun _ => p1)) := hD
        exact c_rv () hx hb hr hlocks hK hP hD hS dJ7_fill_53178_20 trivial
      · skip
        refine lv_aload_n hx hb dJ7_fill_53178_10 rfl (lv_at hl 0 rfl) ?_
        refine lv_iload_n hx hb dJ7_fill_53178_11 rfl (lv_at hl 2 rfl) ?_
        refine lv_iload_n hx hb dJ7_fill_53178_12 rfl (lv_at hl 1 rfl) ?_
        refine c_iast hx hb hK hP hD hS 0 0 rfl rfl (k) (by omega) (by omega) (WA cI aa zl (upd g1 (k) p1)) rfl dJ7_fill_53178_13 (fun H locs hP hD hS => ?_)
        refine c_iinc (k := 2) hx hb (fun v14 => [(2, .int v14), (0, .ref aa), (1, .int p1), (3, .int (nI zl))]) dJ7_fill_53178_14 hl rfl (by decide) (by omega) (by decide) (fun _ => rfl) (fun v14 ls i14 hl => ?_)
        have hl : lv_has ls 4 [(2, .int v14), (0, .ref aa), (1, .int p1), (3, .int (nI zl))] := hl
        refine lv_goto (tgt := 5) hx hb dJ7_fill_53178_17 (by decide) ?_
        exact ih5 (k + 1) v14 (upd g1 (k) p1) _ _ _ (by omega) (by omega) (by omega) (fun j hj => by
              rcases (show j < k ∨ j = k by omega) with h | rfl
              · rw [pk_un (by omega)]; exact hva j h
              · rw [pk_us]) hP hD hS (lv_sub hl [1, 2, 0, 3] rfl)
  exact HL5 (zl + 1) 0 v0 g _ _ _ (by omega) (by omega) (by omega) (fun j h => absurd h (by omega)) hP hD hS (lv_sub hl [2, 3, 1, 0] rfl)
set_option maxHeartbeats 4000000 in
set_option maxRecDepth 100000 in
theorem kX1_beginDay (l : Launch) (D : va_G) (cI : ClassId) (ad : Nat → Nat) (f : Nat → Nat → Int32) (lo : Nat → Int32) (hi : Nat → Int32) (T : Int32) (Dv : Int32) (C : Int32) (p1 : Int32) : MV l yX1_beginDay wsX1_beginDay ({ frames := 1, cells := 0, slots := 0, locals := 23 } : Room) D [(cI, .int)] [.ref (ad 0), .int p1] (WX cI ad f lo hi T Dv C) (fun u : Unit => (WX cI ad (clr f) lo hi p1 0 0)) (fun (_ : Unit) => True) := by
  refine c_ent (cc := cX1_beginDay) (maxL := 2) (ret := none) (Qc := fun A => va_Qv (fun (_ : Unit) => True) (cB D [(cI, .int)] A (fun u : Unit => (WX cI ad (clr f) lo hi p1 0 0))) A) (by decide) rfl (Nat.le_of_ble_eq_true rfl) ?_
  intro p e s m below meth c A ls hx hb hr hlocks hts hown hml hK hP hD hA hl
  have hS : va_S A s.heap s.heap [] := va_S.rf
  have hl : lv_has ls 2 [(0, .ref (ad 0)), (1, .int p1)] := hl
  have hP : va_P D vwCl (WX cI ad f lo hi T Dv C) s.heap := hP
  have fl22 := hts (.fieldLink RX1 22 "DoorBench" "toldIn" "[I") (by decide +kernel)
  have fl25 := hts (.fieldLink RX1 25 "DoorBench" "toldOut" "[I") (by decide +kernel)
  have fl28 := hts (.fieldLink RX1 28 "DoorBench" "startLow" "[I") (by decide +kernel)
  have fl31 := hts (.fieldLink RX1 31 "DoorBench" "startHigh" "[I") (by decide +kernel)
  have fl61 := hts (.fieldLink RX1 61 "DoorBench" "doors" "I") (by decide +kernel)
  have fl86 := hts (.fieldLink RX1 86 "DoorBench" "checks" "I") (by decide +kernel)
  have fl141 := hts (.fieldLink RX1 141 "DoorBench" "ticks" "I") (by decide +kernel)
  have inX1 : ∀ w ∈ wsX10, w ∈ wsX1_beginDay := by decide +kernel
  refine lv_aload_n hx hb dX1_beginDay_0 rfl (lv_at hl 0 rfl) ?_
  refine lv_iload_n hx hb dX1_beginDay_1 rfl (lv_at hl 1 rfl) ?_
  refine c_put (D := D) (ci := 1) (C := RX1) (T := TX1) (N := 16) hx hb hts inX1 tyX1 tyX1_ok nmX1 hown hK hP hD hS 0 rfl rfl 13 (by decide) fl141 (fun _ h9 => h9) rfl (by decide +kernel) (Nat.le_of_ble_eq_true rfl) (WX cI ad f lo hi p1 Dv C) rfl dX1_beginDay_2 (fun H locs hP hD hS => ?_)
  refine lv_aload_n hx hb dX1_beginDay_5 rfl (lv_at hl 0 rfl) ?_
  refine c_iconst hx hb dX1_beginDay_6 (by decide) (fun v6 i6 => ?_)
  refine c_put (D := D) (ci := 1) (C := RX1) (T := TX1) (N := 16) hx hb hts inX1 tyX1 tyX1_ok nmX1 hown hK hP hD hS 0 rfl rfl 14 (by decide) fl61 (fun _ h9 => h9) rfl (by decide +kernel) (Nat.le_of_ble_eq_true rfl) (WX cI ad f lo hi p1 v6 C) rfl dX1_beginDay_7 (fun H locs hP hD hS => ?_)
  refine lv_aload_n hx hb dX1_beginDay_10 rfl (lv_at hl 0 rfl) ?_
  refine c_iconst hx hb dX1_beginDay_11 (by decide) (fun v11 i11 => ?_)
  refine c_put (D := D) (ci := 1) (C := RX1) (T := TX1) (N := 16) hx hb hts inX1 tyX1 tyX1_ok nmX1 hown hK hP hD hS 0 rfl rfl 15 (by decide) fl86 (fun _ h9 => h9) rfl (by decide +kernel) (Nat.le_of_ble_eq_true rfl) (WX cI ad f lo hi p1 v6 v11) rfl dX1_beginDay_12 (fun H locs hP hD hS => ?_)
  refine lv_aload_n hx hb dX1_beginDay_15 rfl (lv_at hl 0 rfl) ?_
  refine va_get (D := D) (ci := 1) (v := .ref (ad 5)) (C := RX1) (T := TX1) (N := 16) hx hb hts inX1 hown hK hP 0 rfl rfl 4 (by decide) fl22 (fun _ h9 => h9) rfl dX1_beginDay_16 ?_
  refine c_iconst hx hb dX1_beginDay_19 (by decide) (fun v19 i19 => ?_)
  refine c_csv (As := [.ref (ad 5), .int v19]) (wr := [((ad 0), .inr (1, [.ref (ad 1), .ref (ad 2), .ref (ad 3), .ref (ad 4), .ref (ad 5), .ref (ad 6), .ref (ad 7), .ref (ad 8), .ref (ad 9), .ref (ad 10), .ref (ad 11), .ref (ad 12), .ref (ad 13), .int p1, .int v6, .int v11])), ((ad 1), .inl (cI, 6, .inl (f 0))), ((ad 2), .inl (cI, 6, .inl (f 1))), ((ad 3), .inl (cI, 6, .inl (f 2))), ((ad 4), .inl (cI, 6, .inl (f 3))), ((ad 6), .inl (cI, 360, .inl (f 5))), ((ad 7), .inl (cI, 2, .inl (f 6))), ((ad 8), .inl (cI, 2, .inl (f 7))), ((ad 9), .inl (cI, 20, .inl (f 8))), ((ad 10), .inl (cI, 20, .inl (f 9))), ((ad 11), .inl (cI, 20, .inl (f 10))), ((ad 12), .inl (cI, 20, .inl (f 11))), ((ad 13), .inr (0, [.ref (ad 14), .ref (ad 15)])), ((ad 14), .inl (cI, 186, .inl lo)), ((ad 15), .inl (cI, 186, .inl hi))]) (wF := (fun uZ => (WX cI ad (st2 f 4 (fun _ => v19)) lo hi p1 v6 v11))) (kJ7_fill_53178 l D cI (ad 5) 360 (f 4) v19 (by omega)) ⟨hx, hb, hml, hown, hts⟩ (va_cwS 2 hts gX1_beginDay_J7_fill_53178 rfl rfl rfl (by decide +kernel) ⟨Nat.le_of_ble_eq_true rfl, Nat.le_of_ble_eq_true rfl⟩) hK hP hD hS hA [5] [0, 1, 2, 3, 4, 6, 7, 8, 9, 10, 11, 12, 13, 14, 15] [0, 1, 2, 3, 4, 15, 5, 6, 7, 8, 9, 10, 11, 12, 13, 14] rfl (by decide) rfl (by decide) (by decide) (by decide) (fun _ => rfl) rfl hl.1 rfl (Nat.le_of_ble_eq_true rfl) dX1_beginDay_20 ⟨Nat.zero_le _, Nat.zero_le _⟩ (fun u20 H locs q20 hP hD hS => ?_)
  try dsimp only at q20
  have hP : va_P D vwCl (WX cI ad (st2 f 4 (fun _ => v19)) lo hi p1 v6 v11) H := hP
  have hD : va_D A (WX cI ad (st2 f 4 (fun _ => v19)) lo hi p1 v6 v11) := hD
  refine lv_aload_n hx hb dX1_beginDay_23 rfl (lv_at hl 0 rfl) ?_
  refine va_get (D := D) (ci := 1) (v := .ref (ad 6)) (C := RX1) (T := TX1) (N := 16) hx hb hts inX1 hown hK hP 0 rfl rfl 5 (by decide) fl25 (fun _ h9 => h9) rfl dX1_beginDay_24 ?_
  refine c_iconst hx hb dX1_beginDay_27 (by decide) (fun v27 i27 => ?_)
  refine c_csv (As := [.ref (ad 6), .int v27]) (wr := [((ad 0), .inr (1, [.ref (ad 1), .ref (ad 2), .ref (ad 3), .ref (ad 4), .ref (ad 5), .ref (ad 6), .ref (ad 7), .ref (ad 8), .ref (ad 9), .ref (ad 10), .ref (ad 11), .ref (ad 12), .ref (ad 13), .int p1, .int v6, .int v11])), ((ad 1), .inl (cI, 6, .inl ((st2 f 4 (fun _ => v19)) 0))), ((ad 2), .inl (cI, 6, .inl ((st2 f 4 (fun _ => v19)) 1))), ((ad 3), .inl (cI, 6, .inl ((st2 f 4 (fun _ => v19)) 2))), ((ad 4), .inl (cI, 6, .inl ((st2 f 4 (fun _ => v19)) 3))), ((ad 5), .inl (cI, 360, .inl ((st2 f 4 (fun _ => v19)) 4))), ((ad 7), .inl (cI, 2, .inl ((st2 f 4 (fun _ => v19)) 6))), ((ad 8), .inl (cI, 2, .inl ((st2 f 4 (fun _ => v19)) 7))), ((ad 9), .inl (cI, 20, .inl ((st2 f 4 (fun _ => v19)) 8))), ((ad 10), .inl (cI, 20, .inl ((st2 f 4 (fun _ => v19)) 9))), ((ad 11), .inl (cI, 20, .inl ((st2 f 4 (fun _ => v19)) 10))), ((ad 12), .inl (cI, 20, .inl ((st2 f 4 (fun _ => v19)) 11))), ((ad 13), .inr (0, [.ref (ad 14), .ref (ad 15)])), ((ad 14), .inl (cI, 186, .inl lo)), ((ad 15), .inl (cI, 186, .inl hi))]) (wF := (fun uZ => (WX cI ad (st2 (st2 f 4 (fun _ => v19)) 5 (fun _ => v27)) lo hi p1 v6 v11))) (kJ7_fill_53178 l D cI (ad 6) 360 ((st2 f 4 (fun _ => v19)) 5) v27 (by omega)) ⟨hx, hb, hml, hown, hts⟩ (va_cwS 2 hts gX1_beginDay_J7_fill_53178 rfl rfl rfl (by decide +kernel) ⟨Nat.le_of_ble_eq_true rfl, Nat.le_of_ble_eq_true rfl⟩) hK hP hD hS hA [6] [0, 1, 2, 3, 4, 5, 7, 8, 9, 10, 11, 12, 13, 14, 15] [0, 1, 2, 3, 4, 5, 15, 6, 7, 8, 9, 10, 11, 12, 13, 14] rfl (by decide) rfl (by decide) (by decide) (by decide) (fun _ => rfl) rfl hl.1 rfl (Nat.le_of_ble_eq_true rfl) dX1_beginDay_28 ⟨Nat.zero_le _, Nat.zero_le _⟩ (fun u28 H locs q28 hP hD hS => ?_)
  try dsimp only at q28
  have hP : va_P D vwCl (WX cI ad (st2 (st2 f 4 (fun _ => v19)) 5 (fun _ => v27)) lo hi p1 v6 v11) H := hP
  have hD : va_D A (WX cI ad (st2 (st2 f 4 (fun _ => v19)) 5 (fun _ => v27)) lo hi p1 v6 v11) := hD
  refine lv_aload_n hx hb dX1_beginDay_31 rfl (lv_at hl 0 rfl) ?_
  refine va_get (D := D) (ci := 1) (v := .ref (ad 7)) (C := RX1) (T := TX1) (N := 16) hx hb hts inX1 hown hK hP 0 rfl rfl 6 (by decide) fl28 (fun _ h9 => h9) rfl dX1_beginDay_32 ?_
  refine c_iconst hx hb dX1_beginDay_35 (by decide) (fun v35 i35 => ?_)
  refine c_csv (As := [.ref (ad 7), .int v35]) (wr := [((ad 0), .inr (1, [.ref (ad 1), .ref (ad 2), .ref (ad 3), .ref (ad 4), .ref (ad 5), .ref (ad 6), .ref (ad 7), .ref (ad 8), .ref (ad 9), .ref (ad 10), .ref (ad 11), .ref (ad 12), .ref (ad 13), .int p1, .int v6, .int v11])), ((ad 1), .inl (cI, 6, .inl ((st2 (st2 f 4 (fun _ => v19)) 5 (fun _ => v27)) 0))), ((ad 2), .inl (cI, 6, .inl ((st2 (st2 f 4 (fun _ => v19)) 5 (fun _ => v27)) 1))), ((ad 3), .inl (cI, 6, .inl ((st2 (st2 f 4 (fun _ => v19)) 5 (fun _ => v27)) 2))), ((ad 4), .inl (cI, 6, .inl ((st2 (st2 f 4 (fun _ => v19)) 5 (fun _ => v27)) 3))), ((ad 5), .inl (cI, 360, .inl ((st2 (st2 f 4 (fun _ => v19)) 5 (fun _ => v27)) 4))), ((ad 6), .inl (cI, 360, .inl ((st2 (st2 f 4 (fun _ => v19)) 5 (fun _ => v27)) 5))), ((ad 8), .inl (cI, 2, .inl ((st2 (st2 f 4 (fun _ => v19)) 5 (fun _ => v27)) 7))), ((ad 9), .inl (cI, 20, .inl ((st2 (st2 f 4 (fun _ => v19)) 5 (fun _ => v27)) 8))), ((ad 10), .inl (cI, 20, .inl ((st2 (st2 f 4 (fun _ => v19)) 5 (fun _ => v27)) 9))), ((ad 11), .inl (cI, 20, .inl ((st2 (st2 f 4 (fun _ => v19)) 5 (fun _ => v27)) 10))), ((ad 12), .inl (cI, 20, .inl ((st2 (st2 f 4 (fun _ => v19)) 5 (fun _ => v27)) 11))), ((ad 13), .inr (0, [.ref (ad 14), .ref (ad 15)])), ((ad 14), .inl (cI, 186, .inl lo)), ((ad 15), .inl (cI, 186, .inl hi))]) (wF := (fun uZ => (WX cI ad (st2 (st2 (st2 f 4 (fun _ => v19)) 5 (fun _ => v27)) 6 (fun _ => v35)) lo hi p1 v6 v11))) (kJ7_fill_53178 l D cI (ad 7) 2 ((st2 (st2 f 4 (fun _ => v19)) 5 (fun _ => v27)) 6) v35 (by omega)) ⟨hx, hb, hml, hown, hts⟩ (va_cwS 2 hts gX1_beginDay_J7_fill_53178 rfl rfl rfl (by decide +kernel) ⟨Nat.le_of_ble_eq_true rfl, Nat.le_of_ble_eq_true rfl⟩) hK hP hD hS hA [7] [0, 1, 2, 3, 4, 5, 6, 8, 9, 10, 11, 12, 13, 14, 15] [0, 1, 2, 3, 4, 5, 6, 15, 7, 8, 9, 10, 11, 12, 13, 14] rfl (by decide) rfl (by decide) (by decide) (by decide) (fun _ => rfl) rfl hl.1 rfl (Nat.le_of_ble_eq_true rfl) dX1_beginDay_36 ⟨Nat.zero_le _, Nat.zero_le _⟩ (fun u36 H locs q36 hP hD hS => ?_)
  try dsimp only at q36
  have hP : va_P D vwCl (WX cI ad (st2 (st2 (st2 f 4 (fun _ => v19)) 5 (fun _ => v27)) 6 (fun _ => v35)) lo hi p1 v6 v11) H := hP
  have hD : va_D A (WX cI ad (st2 (st2 (st2 f 4 (fun _ => v19)) 5 (fun _ => v27)) 6 (fun _ => v35)) lo hi p1 v6 v11) := hD
  refine lv_aload_n hx hb dX1_beginDay_39 rfl (lv_at hl 0 rfl) ?_
  refine va_get (D := D) (ci := 1) (v := .ref (ad 8)) (C := RX1) (T := TX1) (N := 16) hx hb hts inX1 hown hK hP 0 rfl rfl 7 (by decide) fl31 (fun _ h9 => h9) rfl dX1_beginDay_40 ?_
  refine c_iconst hx hb dX1_beginDay_43 (by decide) (fun v43 i43 => ?_)
  refine c_csv (As := [.ref (ad 8), .int v43]) (wr := [((ad 0), .inr (1, [.ref (ad 1), .ref (ad 2), .ref (ad 3), .ref (ad 4), .ref (ad 5), .ref (ad 6), .ref (ad 7), .ref (ad 8), .ref (ad 9), .ref (ad 10), .ref (ad 11), .ref (ad 12), .ref (ad 13), .int p1, .int v6, .int v11])), ((ad 1), .inl (cI, 6, .inl ((st2 (st2 (st2 f 4 (fun _ => v19)) 5 (fun _ => v27)) 6 (fun _ => v35)) 0))), ((ad 2), .inl (cI, 6, .inl ((st2 (st2 (st2 f 4 (fun _ => v19)) 5 (fun _ => v27)) 6 (fun _ => v35)) 1))), ((ad 3), .inl (cI, 6, .inl ((st2 (st2 (st2 f 4 (fun _ => v19)) 5 (fun _ => v27)) 6 (fun _ => v35)) 2))), ((ad 4), .inl (cI, 6, .inl ((st2 (st2 (st2 f 4 (fun _ => v19)) 5 (fun _ => v27)) 6 (fun _ => v35)) 3))), ((ad 5), .inl (cI, 360, .inl ((st2 (st2 (st2 f 4 (fun _ => v19)) 5 (fun _ => v27)) 6 (fun _ => v35)) 4))), ((ad 6), .inl (cI, 360, .inl ((st2 (st2 (st2 f 4 (fun _ => v19)) 5 (fun _ => v27)) 6 (fun _ => v35)) 5))), ((ad 7), .inl (cI, 2, .inl ((st2 (st2 (st2 f 4 (fun _ => v19)) 5 (fun _ => v27)) 6 (fun _ => v35)) 6))), ((ad 9), .inl (cI, 20, .inl ((st2 (st2 (st2 f 4 (fun _ => v19)) 5 (fun _ => v27)) 6 (fun _ => v35)) 8))), ((ad 10), .inl (cI, 20, .inl ((st2 (st2 (st2 f 4 (fun _ => v19)) 5 (fun _ => v27)) 6 (fun _ => v35)) 9))), ((ad 11), .inl (cI, 20, .inl ((st2 (st2 (st2 f 4 (fun _ => v19)) 5 (fun _ => v27)) 6 (fun _ => v35)) 10))), ((ad 12), .inl (cI, 20, .inl ((st2 (st2 (st2 f 4 (fun _ => v19)) 5 (fun _ => v27)) 6 (fun _ => v35)) 11))), ((ad 13), .inr (0, [.ref (ad 14), .ref (ad 15)])), ((ad 14), .inl (cI, 186, .inl lo)), ((ad 15), .inl (cI, 186, .inl hi))]) (wF := (fun uZ => (WX cI ad (st2 (st2 (st2 (st2 f 4 (fun _ => v19)) 5 (fun _ => v27)) 6 (fun _ => v35)) 7 (fun _ => v43)) lo hi p1 v6 v11))) (kJ7_fill_53178 l D cI (ad 8) 2 ((st2 (st2 (st2 f 4 (fun _ => v19)) 5 (fun _ => v27)) 6 (fun _ => v35)) 7) v43 (by omega)) ⟨hx, hb, hml, hown, hts⟩ (va_cwS 2 hts gX1_beginDay_J7_fill_53178 rfl rfl rfl (by decide +kernel) ⟨Nat.le_of_ble_eq_true rfl, Nat.le_of_ble_eq_true rfl⟩) hK hP hD hS hA [8] [0, 1, 2, 3, 4, 5, 6, 7, 9, 10, 11, 12, 13, 14, 15] [0, 1, 2, 3, 4, 5, 6, 7, 15, 8, 9, 10, 11, 12, 13, 14] rfl (by decide) rfl (by decide) (by decide) (by decide) (fun _ => rfl) rfl hl.1 rfl (Nat.le_of_ble_eq_true rfl) dX1_beginDay_44 ⟨Nat.zero_le _, Nat.zero_le _⟩ (fun u44 H locs q44 hP hD hS => ?_)
  try dsimp only at q44
  have hP : va_P D vwCl (WX cI ad (st2 (st2 (st2 (st2 f 4 (fun _ => v19)) 5 (fun _ => v27)) 6 (fun _ => v35)) 7 (fun _ => v43)) lo hi p1 v6 v11) H := hP
  have hD : va_D A (WX cI ad (st2 (st2 (st2 (st2 f 4 (fun _ => v19)) 5 (fun _ => v27)) 6 (fun _ => v35)) 7 (fun _ => v43)) lo hi p1 v6 v11) := hD
  obtain rfl : v19 = -1 := t_inj (by rw [i19]; rfl)
  obtain rfl : v27 = -1 := t_inj (by rw [i27]; rfl)
  obtain rfl : v35 = 0 := t_inj (by rw [i35]; rfl)
  obtain rfl : v43 = 0 := t_inj (by rw [i43]; rfl)
  obtain rfl : v6 = 0 := t_inj (by rw [i6]; rfl)
  obtain rfl : v11 = 0 := t_inj (by rw [i11]; rfl)
  exact c_rv () hx hb hr hlocks hK hP hD hS dX1_beginDay_47 trivial
set_option maxHeartbeats 4000000 in
set_option maxRecDepth 100000 in
theorem kX1_day (l : Launch) (D : va_G) (cI : ClassId) (ad : Nat → Nat) (f : Nat → Nat → Int32) (lo : Nat → Int32) (hi : Nat → Int32) (T : Int32) (Dv : Int32) (C : Int32) (Tn : Nat) (Dn : Nat) (Cn : Nat) (p1 : Int32) (hT : T.toInt = (Tn : Int)) (hDv : Dv.toInt = (Dn : Int)) (hC : C.toInt = (Cn : Int)) (hI : Inv f Tn Dn Cn) : MI l yX1_day wsX1_day ({ frames := 2, cells := 0, slots := 0, locals := 44 } : Room) D [(cI, .int)] [.ref (ad 0), .int p1] (WX cI ad f lo hi T Dv C) (fun u : (Nat → Nat → Int32) × Int32 × Int32 × Int32 => (WX cI ad u.1 lo hi u.2.1 u.2.2.1 u.2.2.2)) (fun (r : Int32) (u : (Nat → Nat → Int32) × Int32 × Int32 × Int32) => (((1 ≤ p1.toInt ∧ p1.toInt ≤ 60) ∧ r.toInt = 1 ∧ u = (clr f, p1, 0, 0)) ∨ (¬ (1 ≤ p1.toInt ∧ p1.toInt ≤ 60) ∧ r.toInt = 0 ∧ u = (f, T, Dv, C)))) := by
  refine c_ent (cc := cX1_day) (maxL := 2) (ret := (some .boolean)) (Qc := fun A => va_Qi (fun (r : Int32) (u : (Nat → Nat → Int32) × Int32 × Int32 × Int32) => (((1 ≤ p1.toInt ∧ p1.toInt ≤ 60) ∧ r.toInt = 1 ∧ u = (clr f, p1, 0, 0)) ∨ (¬ (1 ≤ p1.toInt ∧ p1.toInt ≤ 60) ∧ r.toInt = 0 ∧ u = (f, T, Dv, C)))) (cB D [(cI, .int)] A (fun u : (Nat → Nat → Int32) × Int32 × Int32 × Int32 => (WX cI ad u.1 lo hi u.2.1 u.2.2.1 u.2.2.2))) A) (by decide) rfl (Nat.le_of_ble_eq_true rfl) ?_
  intro p e s m below meth c A ls hx hb hr hlocks hts hown hml hK hP hD hA hl
  have hS : va_S A s.heap s.heap [] := va_S.rf
  have hl : lv_has ls 2 [(0, .ref (ad 0)), (1, .int p1)] := hl
  have hP : va_P D vwCl (WX cI ad f lo hi T Dv C) s.heap := hP
  obtain ⟨hI0, hId, hIr, hIs, hIc⟩ := id hI
  refine lv_iload_n hx hb dX1_day_0 rfl (lv_at hl 1 rfl) ?_
  refine c_iconst hx hb dX1_day_1 (by decide) (fun v1 i1 => ?_)
  refine c_bipush hx hb dX1_day_2 (by decide) (fun v2 i2 => ?_)
  refine c_cpi (As := [.int p1, .int v1, .int v2]) (kX1_within l D cI p1 v1 v2) ⟨hx, hb, hml, hown, hts⟩ (va_cwS 3 hts gX1_day_X1_within rfl rfl rfl (by decide +kernel) ⟨Nat.le_of_ble_eq_true rfl, Nat.le_of_ble_eq_true rfl⟩) hK hP hS hA rfl hl.1 rfl (Nat.le_of_ble_eq_true rfl) dX1_day_4 ⟨Nat.zero_le _, Nat.zero_le _⟩ (fun r4 H locs q4 hP hS => ?_)
  try dsimp only at q4
  refine c_if_ne (tgt := 12) hx hb dX1_day_7 (by decide) (fun c7 => ?_) (fun c7 => ?_)
  · skip
    refine lv_aload_n hx hb dX1_day_12 rfl (lv_at hl 0 rfl) ?_
    refine lv_iload_n hx hb dX1_day_13 rfl (lv_at hl 1 rfl) ?_
    refine c_wvv (As := [.int p1]) (ci := 1) (q0 := 0) (kX1_beginDay l D cI ad f lo hi T Dv C p1) ⟨hx, hb, hml, hown, hts⟩ (cwV 1 hts gX1_day_X1_beginDay rfl rfl rfl (by decide +kernel) ⟨Nat.le_of_ble_eq_true rfl, Nat.le_of_ble_eq_true rfl⟩) hK hP hD hS hA rfl rfl rfl rfl hl.1 rfl (Nat.le_of_ble_eq_true rfl) dX1_day_14 ⟨Nat.zero_le _, Nat.zero_le _⟩ (fun u14 H locs q14 hP hD hS => ?_)
    try dsimp only at q14
    have hP : va_P D vwCl (WX cI ad (clr f) lo hi p1 0 0) H := hP
    have hD : va_D A (WX cI ad (clr f) lo hi p1 0 0) := hD
    refine c_iconst hx hb dX1_day_17 (by decide) (fun v17 i17 => ?_)
    exact c_rz ((clr f), p1, 0, 0) hx hb hr hlocks hK hP hD hS dX1_day_18 (by omega) (Or.inl ⟨by omega, by omega, rfl⟩)
  · skip
    refine c_iconst hx hb dX1_day_10 (by decide) (fun v10 i10 => ?_)
    exact c_rz (f, T, Dv, C) hx hb hr hlocks hK hP hD hS dX1_day_11 (by omega) (Or.inr ⟨by omega, by omega, rfl⟩)
set_option maxHeartbeats 4000000 in
set_option maxRecDepth 100000 in
theorem kX1_door (l : Launch) (D : va_G) (cI : ClassId) (ad : Nat → Nat) (f : Nat → Nat → Int32) (lo : Nat → Int32) (hi : Nat → Int32) (T : Int32) (Dv : Int32) (C : Int32) (Tn : Nat) (Dn : Nat) (Cn : Nat) (p1 : Int32) (p2 : Int32) (p3 : Int32) (p4 : Int32) (hT : T.toInt = (Tn : Int)) (hDv : Dv.toInt = (Dn : Int)) (hC : C.toInt = (Cn : Int)) (hI : Inv f Tn Dn Cn) : MI l yX1_door wsX1_door ({ frames := 1, cells := 0, slots := 0, locals := 22 } : Room) D [(cI, .int)] [.ref (ad 0), .int p1, .int p2, .int p3, .int p4] (WX cI ad f lo hi T Dv C) (fun u : (Nat → Nat → Int32) × Int32 => (WX cI ad u.1 lo hi T u.2 C)) (fun (r : Int32) (u : (Nat → Nat → Int32) × Int32) => (((Dn < 6 ∧ (0 ≤ p1.toInt ∧ p1.toInt ≤ 2) ∧ (0 ≤ p2.toInt ∧ p2.toInt ≤ 5) ∧ (0 ≤ p3.toInt ∧ p3.toInt ≤ 5) ∧ (0 ≤ p4.toInt ∧ p4.toInt ≤ 20)) ∧ r.toInt = (Dn : Int) ∧ u.1 = dorF f Dn p1 p2 p3 p4 ∧ u.2.toInt = (Dn : Int) + 1) ∨ (¬ (Dn < 6 ∧ (0 ≤ p1.toInt ∧ p1.toInt ≤ 2) ∧ (0 ≤ p2.toInt ∧ p2.toInt ≤ 5) ∧ (0 ≤ p3.toInt ∧ p3.toInt ≤ 5) ∧ (0 ≤ p4.toInt ∧ p4.toInt ≤ 20)) ∧ r.toInt = -1 ∧ u = (f, Dv)))) := by
  refine c_ent (cc := cX1_door) (maxL := 7) (ret := (some .int)) (Qc := fun A => va_Qi (fun (r : Int32) (u : (Nat → Nat → Int32) × Int32) => (((Dn < 6 ∧ (0 ≤ p1.toInt ∧ p1.toInt ≤ 2) ∧ (0 ≤ p2.toInt ∧ p2.toInt ≤ 5) ∧ (0 ≤ p3.toInt ∧ p3.toInt ≤ 5) ∧ (0 ≤ p4.toInt ∧ p4.toInt ≤ 20)) ∧ r.toInt = (Dn : Int) ∧ u.1 = dorF f Dn p1 p2 p3 p4 ∧ u.2.toInt = (Dn : Int) + 1) ∨ (¬ (Dn < 6 ∧ (0 ≤ p1.toInt ∧ p1.toInt ≤ 2) ∧ (0 ≤ p2.toInt ∧ p2.toInt ≤ 5) ∧ (0 ≤ p3.toInt ∧ p3.toInt ≤ 5) ∧ (0 ≤ p4.toInt ∧ p4.toInt ≤ 20)) ∧ r.toInt = -1 ∧ u = (f, Dv)))) (cB D [(cI, .int)] A (fun u : (Nat → Nat → Int32) × Int32 => (WX cI ad u.1 lo hi T u.2 C))) A) (by decide) rfl (Nat.le_of_ble_eq_true rfl) ?_
  intro p e s m below meth c A ls hx hb hr hlocks hts hown hml hK hP hD hA hl
  have hS : va_S A s.heap s.heap [] := va_S.rf
  have hl : lv_has ls 7 [(0, .ref (ad 0)), (1, .int p1), (2, .int p2), (3, .int p3), (4, .int p4)] := hl
  have hP : va_P D vwCl (WX cI ad f lo hi T Dv C) s.heap := hP
  have fl9 := hts (.fieldLink RX1 9 "DoorBench" "kinds" "[I") (by decide +kernel)
  have fl13 := hts (.fieldLink RX1 13 "DoorBench" "misses" "[I") (by decide +kernel)
  have fl16 := hts (.fieldLink RX1 16 "DoorBench" "doubles" "[I") (by decide +kernel)
  have fl19 := hts (.fieldLink RX1 19 "DoorBench" "caps" "[I") (by decide +kernel)
  have fl61 := hts (.fieldLink RX1 61 "DoorBench" "doors" "I") (by decide +kernel)
  have inX1 : ∀ w ∈ wsX10, w ∈ wsX1_door := by decide +kernel
  obtain ⟨hI0, hId, hIr, hIs, hIc⟩ := id hI
  refine lv_iload_n hx hb dX1_door_0 rfl (lv_at hl 1 rfl) ?_
  refine c_iconst hx hb dX1_door_1 (by decide) (fun v1 i1 => ?_)
  refine c_iconst hx hb dX1_door_2 (by decide) (fun v2 i2 => ?_)
  refine c_cpi (As := [.int p1, .int v1, .int v2]) (kX1_within l D cI p1 v1 v2) ⟨hx, hb, hml, hown, hts⟩ (va_cwS 3 hts gX1_door_X1_within rfl rfl rfl (by decide +kernel) ⟨Nat.le_of_ble_eq_true rfl, Nat.le_of_ble_eq_true rfl⟩) hK hP hS hA rfl hl.1 rfl (Nat.le_of_ble_eq_true rfl) dX1_door_3 ⟨Nat.zero_le _, Nat.zero_le _⟩ (fun r3 H locs q3 hP hS => ?_)
  try dsimp only at q3
  refine c_if_eq (tgt := 42) hx hb dX1_door_6 (by decide) (fun c6 => ?_) (fun c6 => ?_)
  · skip
    refine c_iconst hx hb dX1_door_42 (by decide) (fun v42 i42 => ?_)
    refine lv_istore (lv' := [(5, .int v42), (0, .ref (ad 0)), (1, .int p1), (2, .int p2), (3, .int p3), (4, .int p4)]) hx hb dX1_door_43 hl (by decide) rfl (fun ls hl => ?_)
    refine lv_iload hx hb dX1_door_45 (lv_at hl 0 rfl) ?_
    refine c_if_eq (tgt := 59) hx hb dX1_door_47 (by decide) (fun c47 => ?_) (fun c47 => absurd c47 (by omega))
    refine c_iconst hx hb dX1_door_59 (by decide) (fun v59 i59 => ?_)
    exact c_ri (f, Dv) hx hb hr hlocks hK hP hD hS dX1_door_60 (Or.inr ⟨by omega, by omega, rfl⟩)
  · skip
    refine lv_iload_n hx hb dX1_door_9 rfl (lv_at hl 2 rfl) ?_
    refine c_iconst hx hb dX1_door_10 (by decide) (fun v10 i10 => ?_)
    refine c_iconst hx hb dX1_door_11 (by decide) (fun v11 i11 => ?_)
    refine c_cpi (As := [.int p2, .int v10, .int v11]) (kX1_within l D cI p2 v10 v11) ⟨hx, hb, hml, hown, hts⟩ (va_cwS 3 hts gX1_door_X1_within rfl rfl rfl (by decide +kernel) ⟨Nat.le_of_ble_eq_true rfl, Nat.le_of_ble_eq_true rfl⟩) hK hP hS hA rfl hl.1 rfl (Nat.le_of_ble_eq_true rfl) dX1_door_12 ⟨Nat.zero_le _, Nat.zero_le _⟩ (fun r12 H locs q12 hP hS => ?_)
    try dsimp only at q12
    refine c_if_eq (tgt := 42) hx hb dX1_door_15 (by decide) (fun c15 => ?_) (fun c15 => ?_)
    · skip
      refine c_iconst hx hb dX1_door_42 (by decide) (fun v42_2 i42_2 => ?_)
      refine lv_istore (lv' := [(5, .int v42_2), (0, .ref (ad 0)), (1, .int p1), (2, .int p2), (3, .int p3), (4, .int p4)]) hx hb dX1_door_43 hl (by decide) rfl (fun ls hl => ?_)
      refine lv_iload hx hb dX1_door_45 (lv_at hl 0 rfl) ?_
      refine c_if_eq (tgt := 59) hx hb dX1_door_47 (by decide) (fun c47_2 => ?_) (fun c47_2 => absurd c47_2 (by omega))
      refine c_iconst hx hb dX1_door_59 (by decide) (fun v59_2 i59_2 => ?_)
      exact c_ri (f, Dv) hx hb hr hlocks hK hP hD hS dX1_door_60 (Or.inr ⟨by omega, by omega, rfl⟩)
    · skip
      refine lv_iload_n hx hb dX1_door_18 rfl (lv_at hl 3 rfl) ?_
      refine c_iconst hx hb dX1_door_19 (by decide) (fun v19 i19 => ?_)
      refine c_iconst hx hb dX1_door_20 (by decide) (fun v20 i20 => ?_)
      refine c_cpi (As := [.int p3, .int v19, .int v20]) (kX1_within l D cI p3 v19 v20) ⟨hx, hb, hml, hown, hts⟩ (va_cwS 3 hts gX1_door_X1_within rfl rfl rfl (by decide +kernel) ⟨Nat.le_of_ble_eq_true rfl, Nat.le_of_ble_eq_true rfl⟩) hK hP hS hA rfl hl.1 rfl (Nat.le_of_ble_eq_true rfl) dX1_door_21 ⟨Nat.zero_le _, Nat.zero_le _⟩ (fun r21 H locs q21 hP hS => ?_)
      try dsimp only at q21
      refine c_if_eq (tgt := 42) hx hb dX1_door_24 (by decide) (fun c24 => ?_) (fun c24 => ?_)
      · skip
        refine c_iconst hx hb dX1_door_42 (by decide) (fun v42_3 i42_3 => ?_)
        refine lv_istore (lv' := [(5, .int v42_3), (0, .ref (ad 0)), (1, .int p1), (2, .int p2), (3, .int p3), (4, .int p4)]) hx hb dX1_door_43 hl (by decide) rfl (fun ls hl => ?_)
        refine lv_iload hx hb dX1_door_45 (lv_at hl 0 rfl) ?_
        refine c_if_eq (tgt := 59) hx hb dX1_door_47 (by decide) (fun c47_3 => ?_) (fun c47_3 => absurd c47_3 (by omega))
        refine c_iconst hx hb dX1_door_59 (by decide) (fun v59_3 i59_3 => ?_)
        exact c_ri (f, Dv) hx hb hr hlocks hK hP hD hS dX1_door_60 (Or.inr ⟨by omega, by omega, rfl⟩)
      · skip
        refine lv_iload hx hb dX1_door_27 (lv_at hl 4 rfl) ?_
        refine c_iconst hx hb dX1_door_29 (by decide) (fun v29 i29 => ?_)
        refine c_bipush hx hb dX1_door_30 (by decide) (fun v30 i30 => ?_)
        refine c_cpi (As := [.int p4, .int v29, .int v30]) (kX1_within l D cI p4 v29 v30) ⟨hx, hb, hml, hown, hts⟩ (va_cwS 3 hts gX1_door_X1_within rfl rfl rfl (by decide +kernel) ⟨Nat.le_of_ble_eq_true rfl, Nat.le_of_ble_eq_true rfl⟩) hK hP hS hA rfl hl.1 rfl (Nat.le_of_ble_eq_true rfl) dX1_door_32 ⟨Nat.zero_le _, Nat.zero_le _⟩ (fun r32 H locs q32 hP hS => ?_)
        try dsimp only at q32
        refine c_if_eq (tgt := 42) hx hb dX1_door_35 (by decide) (fun c35 => ?_) (fun c35 => ?_)
        · skip
          refine c_iconst hx hb dX1_door_42 (by decide) (fun v42_4 i42_4 => ?_)
          refine lv_istore (lv' := [(5, .int v42_4), (0, .ref (ad 0)), (1, .int p1), (2, .int p2), (3, .int p3), (4, .int p4)]) hx hb dX1_door_43 hl (by decide) rfl (fun ls hl => ?_)
          refine lv_iload hx hb dX1_door_45 (lv_at hl 0 rfl) ?_
          refine c_if_eq (tgt := 59) hx hb dX1_door_47 (by decide) (fun c47_4 => ?_) (fun c47_4 => absurd c47_4 (by omega))
          refine c_iconst hx hb dX1_door_59 (by decide) (fun v59_4 i59_4 => ?_)
          exact c_ri (f, Dv) hx hb hr hlocks hK hP hD hS dX1_door_60 (Or.inr ⟨by omega, by omega, rfl⟩)
        · skip
          refine c_iconst hx hb dX1_door_38 (by decide) (fun v38 i38 => ?_)
          refine lv_goto (tgt := 43) hx hb dX1_door_39 (by decide) ?_
          refine lv_istore (lv' := [(5, .int v38), (0, .ref (ad 0)), (1, .int p1), (2, .int p2), (3, .int p3), (4, .int p4)]) hx hb dX1_door_43 hl (by decide) rfl (fun ls hl => ?_)
          refine lv_iload hx hb dX1_door_45 (lv_at hl 0 rfl) ?_
          refine c_if_eq (tgt := 59) hx hb dX1_door_47 (by decide) (fun c47_5 => absurd c47_5 (by omega)) (fun c47_5 => ?_)
          refine lv_aload_n hx hb dX1_door_50 rfl (lv_at hl 1 rfl) ?_
          refine va_get (D := D) (ci := 1) (v := .int Dv) (C := RX1) (T := TX1) (N := 16) hx hb hts inX1 hown hK hP 0 rfl rfl 14 (by decide) fl61 (fun _ h9 => h9) rfl dX1_door_51 ?_
          refine c_bipush hx hb dX1_door_54 (by decide) (fun v54 i54 => ?_)
          refine c_icmp_lt (tgt := 61) hx hb dX1_door_56 (by decide) (fun c56 => ?_) (fun c56 => ?_)
          · skip
            refine lv_aload_n hx hb dX1_door_61 rfl (lv_at hl 1 rfl) ?_
            refine va_get (D := D) (ci := 1) (v := .int Dv) (C := RX1) (T := TX1) (N := 16) hx hb hts inX1 hown hK hP 0 rfl rfl 14 (by decide) fl61 (fun _ h9 => h9) rfl dX1_door_62 ?_
            refine lv_istore (lv' := [(6, .int Dv), (5, .int v38), (0, .ref (ad 0)), (1, .int p1), (2, .int p2), (3, .int p3), (4, .int p4)]) hx hb dX1_door_65 hl (by decide) rfl (fun ls hl => ?_)
            refine lv_aload_n hx hb dX1_door_67 rfl (lv_at hl 2 rfl) ?_
            refine va_get (D := D) (ci := 1) (v := .ref (ad 1)) (C := RX1) (T := TX1) (N := 16) hx hb hts inX1 hown hK hP 0 rfl rfl 0 (by decide) fl9 (fun _ h9 => h9) rfl dX1_door_68 ?_
            refine lv_iload hx hb dX1_door_71 (lv_at hl 0 rfl) ?_
            refine lv_iload_n hx hb dX1_door_73 rfl (lv_at hl 3 rfl) ?_
            refine c_iast hx hb hK hP hD hS 1 0 rfl rfl (Dn) (by omega) (by omega) (WX cI ad (up2 f 0 (Dn) p1) lo hi T Dv C) rfl dX1_door_74 (fun H locs hP hD hS => ?_)
            refine lv_aload_n hx hb dX1_door_75 rfl (lv_at hl 2 rfl) ?_
            refine va_get (D := D) (ci := 1) (v := .ref (ad 2)) (C := RX1) (T := TX1) (N := 16) hx hb hts inX1 hown hK hP 0 rfl rfl 1 (by decide) fl13 (fun _ h9 => h9) rfl dX1_door_76 ?_
            refine lv_iload hx hb dX1_door_79 (lv_at hl 0 rfl) ?_
            refine lv_iload_n hx hb dX1_door_81 rfl (lv_at hl 4 rfl) ?_
            refine c_iast hx hb hK hP hD hS 2 0 rfl rfl (Dn) (by omega) (by omega) (WX cI ad (up2 (up2 f 0 (Dn) p1) 1 (Dn) p2) lo hi T Dv C) rfl dX1_door_82 (fun H locs hP hD hS => ?_)
            refine lv_aload_n hx hb dX1_door_83 rfl (lv_at hl 2 rfl) ?_
            refine va_get (D := D) (ci := 1) (v := .ref (ad 3)) (C := RX1) (T := TX1) (N := 16) hx hb hts inX1 hown hK hP 0 rfl rfl 2 (by decide) fl16 (fun _ h9 => h9) rfl dX1_door_84 ?_
            refine lv_iload hx hb dX1_door_87 (lv_at hl 0 rfl) ?_
            refine lv_iload_n hx hb dX1_door_89 rfl (lv_at hl 5 rfl) ?_
            refine c_iast hx hb hK hP hD hS 3 0 rfl rfl (Dn) (by omega) (by omega) (WX cI ad (up2 (up2 (up2 f 0 (Dn) p1) 1 (Dn) p2) 2 (Dn) p3) lo hi T Dv C) rfl dX1_door_90 (fun H locs hP hD hS => ?_)
            refine lv_aload_n hx hb dX1_door_91 rfl (lv_at hl 2 rfl) ?_
            refine va_get (D := D) (ci := 1) (v := .ref (ad 4)) (C := RX1) (T := TX1) (N := 16) hx hb hts inX1 hown hK hP 0 rfl rfl 3 (by decide) fl19 (fun _ h9 => h9) rfl dX1_door_92 ?_
            refine lv_iload hx hb dX1_door_95 (lv_at hl 0 rfl) ?_
            refine lv_iload hx hb dX1_door_97 (lv_at hl 6 rfl) ?_
            refine c_iast hx hb hK hP hD hS 4 0 rfl rfl (Dn) (by omega) (by omega) (WX cI ad (up2 (up2 (up2 (up2 f 0 (Dn) p1) 1 (Dn) p2) 2 (Dn) p3) 3 (Dn) p4) lo hi T Dv C) rfl dX1_door_99 (fun H locs hP hD hS => ?_)
            refine lv_aload_n hx hb dX1_door_100 rfl (lv_at hl 2 rfl) ?_
            refine lv_iload hx hb dX1_door_101 (lv_at hl 0 rfl) ?_
            refine c_iconst hx hb dX1_door_103 (by decide) (fun v103 i103 => ?_)
            refine c_iadd hx hb dX1_door_104 (by omega) (fun v104 i104 => ?_)
            refine c_put (D := D) (ci := 1) (C := RX1) (T := TX1) (N := 16) hx hb hts inX1 tyX1 tyX1_ok nmX1 hown hK hP hD hS 0 rfl rfl 14 (by decide) fl61 (fun _ h9 => h9) rfl (by decide +kernel) (Nat.le_of_ble_eq_true rfl) (WX cI ad (up2 (up2 (up2 (up2 f 0 (Dn) p1) 1 (Dn) p2) 2 (Dn) p3) 3 (Dn) p4) lo hi T v104 C) rfl dX1_door_105 (fun H locs hP hD hS => ?_)
            refine lv_iload hx hb dX1_door_108 (lv_at hl 0 rfl) ?_
            exact c_ri ((up2 (up2 (up2 (up2 f 0 (Dn) p1) 1 (Dn) p2) 2 (Dn) p3) 3 (Dn) p4), v104) hx hb hr hlocks hK hP hD hS dX1_door_110 (Or.inl ⟨by omega, by omega, rfl, by (try dsimp only); omega⟩)
          · skip
            refine c_iconst hx hb dX1_door_59 (by decide) (fun v59_5 i59_5 => ?_)
            exact c_ri (f, Dv) hx hb hr hlocks hK hP hD hS dX1_door_60 (Or.inr ⟨by omega, by omega, rfl⟩)
set_option maxHeartbeats 4000000 in
set_option maxRecDepth 100000 in
theorem kX1_row (l : Launch) (D : va_G) (cI : ClassId) (ad : Nat → Nat) (f : Nat → Nat → Int32) (lo : Nat → Int32) (hi : Nat → Int32) (T : Int32) (Dv : Int32) (C : Int32) (Tn : Nat) (Dn : Nat) (Cn : Nat) (p1 : Int32) (p2 : Int32) (p3 : Int32) (p4 : Int32) (hT : T.toInt = (Tn : Int)) (hDv : Dv.toInt = (Dn : Int)) (hC : C.toInt = (Cn : Int)) (hI : Inv f Tn Dn Cn) : MI l yX1_row wsX1_row ({ frames := 2, cells := 0, slots := 0, locals := 43 } : Room) D [(cI, .int)] [.ref (ad 0), .int p1, .int p2, .int p3, .int p4] (WX cI ad f lo hi T Dv C) (fun u : Nat → Nat → Int32 => (WX cI ad u lo hi T Dv C)) (fun (r : Int32) (u : Nat → Nat → Int32) => ((((0 ≤ p1.toInt ∧ p1.toInt < (Dn : Int)) ∧ (0 ≤ p2.toInt ∧ p2.toInt < (Tn : Int)) ∧ (0 ≤ p3.toInt ∧ p3.toInt ≤ 20) ∧ (0 ≤ p4.toInt ∧ p4.toInt ≤ 20)) ∧ r.toInt = 1 ∧ u = rowF f (60 * p1.toInt.toNat + p2.toInt.toNat) p3 p4) ∨ (¬ ((0 ≤ p1.toInt ∧ p1.toInt < (Dn : Int)) ∧ (0 ≤ p2.toInt ∧ p2.toInt < (Tn : Int)) ∧ (0 ≤ p3.toInt ∧ p3.toInt ≤ 20) ∧ (0 ≤ p4.toInt ∧ p4.toInt ≤ 20)) ∧ r.toInt = 0 ∧ u = f))) := by
  refine c_ent (cc := cX1_row) (maxL := 7) (ret := (some .boolean)) (Qc := fun A => va_Qi (fun (r : Int32) (u : Nat → Nat → Int32) => ((((0 ≤ p1.toInt ∧ p1.toInt < (Dn : Int)) ∧ (0 ≤ p2.toInt ∧ p2.toInt < (Tn : Int)) ∧ (0 ≤ p3.toInt ∧ p3.toInt ≤ 20) ∧ (0 ≤ p4.toInt ∧ p4.toInt ≤ 20)) ∧ r.toInt = 1 ∧ u = rowF f (60 * p1.toInt.toNat + p2.toInt.toNat) p3 p4) ∨ (¬ ((0 ≤ p1.toInt ∧ p1.toInt < (Dn : Int)) ∧ (0 ≤ p2.toInt ∧ p2.toInt < (Tn : Int)) ∧ (0 ≤ p3.toInt ∧ p3.toInt ≤ 20) ∧ (0 ≤ p4.toInt ∧ p4.toInt ≤ 20)) ∧ r.toInt = 0 ∧ u = f))) (cB D [(cI, .int)] A (fun u : Nat → Nat → Int32 => (WX cI ad u lo hi T Dv C))) A) (by decide) rfl (Nat.le_of_ble_eq_true rfl) ?_
  intro p e s m below meth c A ls hx hb hr hlocks hts hown hml hK hP hD hA hl
  have hS : va_S A s.heap s.heap [] := va_S.rf
  have hl : lv_has ls 7 [(0, .ref (ad 0)), (1, .int p1), (2, .int p2), (3, .int p3), (4, .int p4)] := hl
  have hP : va_P D vwCl (WX cI ad f lo hi T Dv C) s.heap := hP
  have fl22 := hts (.fieldLink RX1 22 "DoorBench" "toldIn" "[I") (by decide +kernel)
  have fl25 := hts (.fieldLink RX1 25 "DoorBench" "toldOut" "[I") (by decide +kernel)
  have inX1 : ∀ w ∈ wsX10, w ∈ wsX1_row := by decide +kernel
  obtain ⟨hI0, hId, hIr, hIs, hIc⟩ := id hI
  refine lv_aload_n hx hb dX1_row_0 rfl (lv_at hl 0 rfl) ?_
  refine lv_iload_n hx hb dX1_row_1 rfl (lv_at hl 1 rfl) ?_
  refine c_wvi (As := [.int p1]) (ci := 1) (q0 := 0) (kX1_isDoor l D cI ad f lo hi T Dv C Tn Dn Cn p1 hT hDv hC hI) ⟨hx, hb, hml, hown, hts⟩ (cwV 1 hts gX1_row_X1_isDoor rfl rfl rfl (by decide +kernel) ⟨Nat.le_of_ble_eq_true rfl, Nat.le_of_ble_eq_true rfl⟩) hK hP hD hS hA rfl rfl rfl rfl hl.1 rfl (Nat.le_of_ble_eq_true rfl) dX1_row_2 ⟨Nat.zero_le _, Nat.zero_le _⟩ (fun r2 u2 H locs q2 hP hD hS => ?_)
  try dsimp only at q2
  have hP : va_P D vwCl (WX cI ad f lo hi T Dv C) H := hP
  have hD : va_D A (WX cI ad f lo hi T Dv C) := hD
  refine c_if_eq (tgt := 41) hx hb dX1_row_5 (by decide) (fun c5 => ?_) (fun c5 => ?_)
  · skip
    refine c_iconst hx hb dX1_row_41 (by decide) (fun v41 i41 => ?_)
    refine lv_istore (lv' := [(5, .int v41), (0, .ref (ad 0)), (1, .int p1), (2, .int p2), (3, .int p3), (4, .int p4)]) hx hb dX1_row_42 hl (by decide) rfl (fun ls hl => ?_)
    refine lv_iload hx hb dX1_row_44 (lv_at hl 0 rfl) ?_
    refine c_if_ne (tgt := 51) hx hb dX1_row_46 (by decide) (fun c46 => absurd c46 (by omega)) (fun c46 => ?_)
    refine c_iconst hx hb dX1_row_49 (by decide) (fun v49 i49 => ?_)
    exact c_rz f hx hb hr hlocks hK hP hD hS dX1_row_50 (by omega) (Or.inr ⟨by omega, by omega, rfl⟩)
  · skip
    refine lv_aload_n hx hb dX1_row_8 rfl (lv_at hl 0 rfl) ?_
    refine lv_iload_n hx hb dX1_row_9 rfl (lv_at hl 2 rfl) ?_
    refine c_wvi (As := [.int p2]) (ci := 1) (q0 := 0) (kX1_isTick l D cI ad f lo hi T Dv C Tn Dn Cn p2 hT hDv hC hI) ⟨hx, hb, hml, hown, hts⟩ (cwV 1 hts gX1_row_X1_isTick rfl rfl rfl (by decide +kernel) ⟨Nat.le_of_ble_eq_true rfl, Nat.le_of_ble_eq_true rfl⟩) hK hP hD hS hA rfl rfl rfl rfl hl.1 rfl (Nat.le_of_ble_eq_true rfl) dX1_row_10 ⟨Nat.zero_le _, Nat.zero_le _⟩ (fun r10 u10 H locs q10 hP hD hS => ?_)
    try dsimp only at q10
    have hP : va_P D vwCl (WX cI ad f lo hi T Dv C) H := hP
    have hD : va_D A (WX cI ad f lo hi T Dv C) := hD
    refine c_if_eq (tgt := 41) hx hb dX1_row_13 (by decide) (fun c13 => ?_) (fun c13 => ?_)
    · skip
      refine c_iconst hx hb dX1_row_41 (by decide) (fun v41_2 i41_2 => ?_)
      refine lv_istore (lv' := [(5, .int v41_2), (0, .ref (ad 0)), (1, .int p1), (2, .int p2), (3, .int p3), (4, .int p4)]) hx hb dX1_row_42 hl (by decide) rfl (fun ls hl => ?_)
      refine lv_iload hx hb dX1_row_44 (lv_at hl 0 rfl) ?_
      refine c_if_ne (tgt := 51) hx hb dX1_row_46 (by decide) (fun c46_2 => absurd c46_2 (by omega)) (fun c46_2 => ?_)
      refine c_iconst hx hb dX1_row_49 (by decide) (fun v49_2 i49_2 => ?_)
      exact c_rz f hx hb hr hlocks hK hP hD hS dX1_row_50 (by omega) (Or.inr ⟨by omega, by omega, rfl⟩)
    · skip
      refine lv_iload_n hx hb dX1_row_16 rfl (lv_at hl 3 rfl) ?_
      refine c_iconst hx hb dX1_row_17 (by decide) (fun v17 i17 => ?_)
      refine c_bipush hx hb dX1_row_18 (by decide) (fun v18 i18 => ?_)
      refine c_cpi (As := [.int p3, .int v17, .int v18]) (kX1_within l D cI p3 v17 v18) ⟨hx, hb, hml, hown, hts⟩ (va_cwS 3 hts gX1_row_X1_within rfl rfl rfl (by decide +kernel) ⟨Nat.le_of_ble_eq_true rfl, Nat.le_of_ble_eq_true rfl⟩) hK hP hS hA rfl hl.1 rfl (Nat.le_of_ble_eq_true rfl) dX1_row_20 ⟨Nat.zero_le _, Nat.zero_le _⟩ (fun r20 H locs q20 hP hS => ?_)
      try dsimp only at q20
      refine c_if_eq (tgt := 41) hx hb dX1_row_23 (by decide) (fun c23 => ?_) (fun c23 => ?_)
      · skip
        refine c_iconst hx hb dX1_row_41 (by decide) (fun v41_3 i41_3 => ?_)
        refine lv_istore (lv' := [(5, .int v41_3), (0, .ref (ad 0)), (1, .int p1), (2, .int p2), (3, .int p3), (4, .int p4)]) hx hb dX1_row_42 hl (by decide) rfl (fun ls hl => ?_)
        refine lv_iload hx hb dX1_row_44 (lv_at hl 0 rfl) ?_
        refine c_if_ne (tgt := 51) hx hb dX1_row_46 (by decide) (fun c46_3 => absurd c46_3 (by omega)) (fun c46_3 => ?_)
        refine c_iconst hx hb dX1_row_49 (by decide) (fun v49_3 i49_3 => ?_)
        exact c_rz f hx hb hr hlocks hK hP hD hS dX1_row_50 (by omega) (Or.inr ⟨by omega, by omega, rfl⟩)
      · skip
        refine lv_iload hx hb dX1_row_26 (lv_at hl 4 rfl) ?_
        refine c_iconst hx hb dX1_row_28 (by decide) (fun v28 i28 => ?_)
        refine c_bipush hx hb dX1_row_29 (by decide) (fun v29 i29 => ?_)
        refine c_cpi (As := [.int p4, .int v28, .int v29]) (kX1_within l D cI p4 v28 v29) ⟨hx, hb, hml, hown, hts⟩ (va_cwS 3 hts gX1_row_X1_within rfl rfl rfl (by decide +kernel) ⟨Nat.le_of_ble_eq_true rfl, Nat.le_of_ble_eq_true rfl⟩) hK hP hS hA rfl hl.1 rfl (Nat.le_of_ble_eq_true rfl) dX1_row_31 ⟨Nat.zero_le _, Nat.zero_le _⟩ (fun r31 H locs q31 hP hS => ?_)
        try dsimp only at q31
        refine c_if_eq (tgt := 41) hx hb dX1_row_34 (by decide) (fun c34 => ?_) (fun c34 => ?_)
        · skip
          refine c_iconst hx hb dX1_row_41 (by decide) (fun v41_4 i41_4 => ?_)
          refine lv_istore (lv' := [(5, .int v41_4), (0, .ref (ad 0)), (1, .int p1), (2, .int p2), (3, .int p3), (4, .int p4)]) hx hb dX1_row_42 hl (by decide) rfl (fun ls hl => ?_)
          refine lv_iload hx hb dX1_row_44 (lv_at hl 0 rfl) ?_
          refine c_if_ne (tgt := 51) hx hb dX1_row_46 (by decide) (fun c46_4 => absurd c46_4 (by omega)) (fun c46_4 => ?_)
          refine c_iconst hx hb dX1_row_49 (by decide) (fun v49_4 i49_4 => ?_)
          exact c_rz f hx hb hr hlocks hK hP hD hS dX1_row_50 (by omega) (Or.inr ⟨by omega, by omega, rfl⟩)
        · skip
          refine c_iconst hx hb dX1_row_37 (by decide) (fun v37 i37 => ?_)
          refine lv_goto (tgt := 42) hx hb dX1_row_38 (by decide) ?_
          refine lv_istore (lv' := [(5, .int v37), (0, .ref (ad 0)), (1, .int p1), (2, .int p2), (3, .int p3), (4, .int p4)]) hx hb dX1_row_42 hl (by decide) rfl (fun ls hl => ?_)
          refine lv_iload hx hb dX1_row_44 (lv_at hl 0 rfl) ?_
          refine c_if_ne (tgt := 51) hx hb dX1_row_46 (by decide) (fun c46_5 => ?_) (fun c46_5 => absurd c46_5 (by omega))
          refine lv_iload_n hx hb dX1_row_51 rfl (lv_at hl 2 rfl) ?_
          refine lv_iload_n hx hb dX1_row_52 rfl (lv_at hl 3 rfl) ?_
          refine c_cpi (As := [.int p1, .int p2]) (kX1_place l D cI p1 p2 (p1.toInt.toNat) (p2.toInt.toNat) (by omega) (by omega) (by omega)) ⟨hx, hb, hml, hown, hts⟩ (va_cwS 2 hts gX1_row_X1_place rfl rfl rfl (by decide +kernel) ⟨Nat.le_of_ble_eq_true rfl, Nat.le_of_ble_eq_true rfl⟩) hK hP hS hA rfl hl.1 rfl (Nat.le_of_ble_eq_true rfl) dX1_row_53 ⟨Nat.zero_le _, Nat.zero_le _⟩ (fun r53 H locs q53 hP hS => ?_)
          try dsimp only at q53
          skip
          refine lv_istore (lv' := [(6, .int r53), (5, .int v37), (0, .ref (ad 0)), (1, .int p1), (2, .int p2), (3, .int p3), (4, .int p4)]) hx hb dX1_row_56 hl (by decide) rfl (fun ls hl => ?_)
          refine lv_aload_n hx hb dX1_row_58 rfl (lv_at hl 2 rfl) ?_
          refine va_get (D := D) (ci := 1) (v := .ref (ad 5)) (C := RX1) (T := TX1) (N := 16) hx hb hts inX1 hown hK hP 0 rfl rfl 4 (by decide) fl22 (fun _ h9 => h9) rfl dX1_row_59 ?_
          refine lv_iload hx hb dX1_row_62 (lv_at hl 0 rfl) ?_
          refine lv_iload_n hx hb dX1_row_64 rfl (lv_at hl 5 rfl) ?_
          refine c_iast hx hb hK hP hD hS 5 0 rfl rfl (60 * p1.toInt.toNat + p2.toInt.toNat) (by omega) (by omega) (WX cI ad (up2 f 4 (60 * p1.toInt.toNat + p2.toInt.toNat) p3) lo hi T Dv C) rfl dX1_row_65 (fun H locs hP hD hS => ?_)
          refine lv_aload_n hx hb dX1_row_66 rfl (lv_at hl 2 rfl) ?_
          refine va_get (D := D) (ci := 1) (v := .ref (ad 6)) (C := RX1) (T := TX1) (N := 16) hx hb hts inX1 hown hK hP 0 rfl rfl 5 (by decide) fl25 (fun _ h9 => h9) rfl dX1_row_67 ?_
          refine lv_iload hx hb dX1_row_70 (lv_at hl 0 rfl) ?_
          refine lv_iload hx hb dX1_row_72 (lv_at hl 6 rfl) ?_
          refine c_iast hx hb hK hP hD hS 6 0 rfl rfl (60 * p1.toInt.toNat + p2.toInt.toNat) (by omega) (by omega) (WX cI ad (up2 (up2 f 4 (60 * p1.toInt.toNat + p2.toInt.toNat) p3) 5 (60 * p1.toInt.toNat + p2.toInt.toNat) p4) lo hi T Dv C) rfl dX1_row_74 (fun H locs hP hD hS => ?_)
          refine c_iconst hx hb dX1_row_75 (by decide) (fun v75 i75 => ?_)
          exact c_rz (up2 (up2 f 4 (60 * p1.toInt.toNat + p2.toInt.toNat) p3) 5 (60 * p1.toInt.toNat + p2.toInt.toNat) p4) hx hb hr hlocks hK hP hD hS dX1_row_76 (by omega) (Or.inl ⟨by omega, by omega, rfl⟩)
set_option maxHeartbeats 4000000 in
set_option maxRecDepth 100000 in
theorem kX1_lack (l : Launch) (D : va_G) (cI : ClassId) (ad : Nat → Nat) (f : Nat → Nat → Int32) (lo : Nat → Int32) (hi : Nat → Int32) (T : Int32) (Dv : Int32) (C : Int32) (Tn : Nat) (Dn : Nat) (Cn : Nat) (p1 : Int32) (p2 : Int32) (p3 : Int32) (hT : T.toInt = (Tn : Int)) (hDv : Dv.toInt = (Dn : Int)) (hC : C.toInt = (Cn : Int)) (hI : Inv f Tn Dn Cn) : MI l yX1_lack wsX1_lack ({ frames := 2, cells := 0, slots := 0, locals := 43 } : Room) D [(cI, .int)] [.ref (ad 0), .int p1, .int p2, .int p3] (WX cI ad f lo hi T Dv C) (fun u : Nat → Nat → Int32 => (WX cI ad u lo hi T Dv C)) (fun (r : Int32) (u : Nat → Nat → Int32) => ((((0 ≤ p1.toInt ∧ p1.toInt < (Dn : Int)) ∧ (0 ≤ p2.toInt ∧ p2.toInt < (Tn : Int)) ∧ (0 ≤ p3.toInt ∧ p3.toInt < (Tn : Int)) ∧ p2.toInt ≤ p3.toInt) ∧ r.toInt = 1 ∧ u = lck f p1.toInt.toNat p2.toInt.toNat (p3.toInt.toNat + 1 - p2.toInt.toNat)) ∨ (¬ ((0 ≤ p1.toInt ∧ p1.toInt < (Dn : Int)) ∧ (0 ≤ p2.toInt ∧ p2.toInt < (Tn : Int)) ∧ (0 ≤ p3.toInt ∧ p3.toInt < (Tn : Int)) ∧ p2.toInt ≤ p3.toInt) ∧ r.toInt = 0 ∧ u = f))) := by
  refine c_ent (cc := cX1_lack) (maxL := 5) (ret := (some .boolean)) (Qc := fun A => va_Qi (fun (r : Int32) (u : Nat → Nat → Int32) => ((((0 ≤ p1.toInt ∧ p1.toInt < (Dn : Int)) ∧ (0 ≤ p2.toInt ∧ p2.toInt < (Tn : Int)) ∧ (0 ≤ p3.toInt ∧ p3.toInt < (Tn : Int)) ∧ p2.toInt ≤ p3.toInt) ∧ r.toInt = 1 ∧ u = lck f p1.toInt.toNat p2.toInt.toNat (p3.toInt.toNat + 1 - p2.toInt.toNat)) ∨ (¬ ((0 ≤ p1.toInt ∧ p1.toInt < (Dn : Int)) ∧ (0 ≤ p2.toInt ∧ p2.toInt < (Tn : Int)) ∧ (0 ≤ p3.toInt ∧ p3.toInt < (Tn : Int)) ∧ p2.toInt ≤ p3.toInt) ∧ r.toInt = 0 ∧ u = f))) (cB D [(cI, .int)] A (fun u : Nat → Nat → Int32 => (WX cI ad u lo hi T Dv C))) A) (by decide) rfl (Nat.le_of_ble_eq_true rfl) ?_
  intro p e s m below meth c A ls hx hb hr hlocks hts hown hml hK hP hD hA hl
  have hS : va_S A s.heap s.heap [] := va_S.rf
  have hl : lv_has ls 5 [(0, .ref (ad 0)), (1, .int p1), (2, .int p2), (3, .int p3)] := hl
  have hP : va_P D vwCl (WX cI ad f lo hi T Dv C) s.heap := hP
  have fl22 := hts (.fieldLink RX1 22 "DoorBench" "toldIn" "[I") (by decide +kernel)
  have fl25 := hts (.fieldLink RX1 25 "DoorBench" "toldOut" "[I") (by decide +kernel)
  have inX1 : ∀ w ∈ wsX10, w ∈ wsX1_lack := by decide +kernel
  obtain ⟨hI0, hId, hIr, hIs, hIc⟩ := id hI
  refine lv_aload_n hx hb dX1_lack_0 rfl (lv_at hl 0 rfl) ?_
  refine lv_iload_n hx hb dX1_lack_1 rfl (lv_at hl 1 rfl) ?_
  refine c_wvi (As := [.int p1]) (ci := 1) (q0 := 0) (kX1_isDoor l D cI ad f lo hi T Dv C Tn Dn Cn p1 hT hDv hC hI) ⟨hx, hb, hml, hown, hts⟩ (cwV 1 hts gX1_lack_X1_isDoor rfl rfl rfl (by decide +kernel) ⟨Nat.le_of_ble_eq_true rfl, Nat.le_of_ble_eq_true rfl⟩) hK hP hD hS hA rfl rfl rfl rfl hl.1 rfl (Nat.le_of_ble_eq_true rfl) dX1_lack_2 ⟨Nat.zero_le _, Nat.zero_le _⟩ (fun r2 u2 H locs q2 hP hD hS => ?_)
  try dsimp only at q2
  have hP : va_P D vwCl (WX cI ad f lo hi T Dv C) H := hP
  have hD : va_D A (WX cI ad f lo hi T Dv C) := hD
  refine c_if_eq (tgt := 29) hx hb dX1_lack_5 (by decide) (fun c5 => ?_) (fun c5 => ?_)
  · skip
    refine c_iconst hx hb dX1_lack_29 (by decide) (fun v29 i29 => ?_)
    exact c_rz f hx hb hr hlocks hK hP hD hS dX1_lack_30 (by omega) (Or.inr ⟨by omega, by omega, rfl⟩)
  · skip
    refine lv_aload_n hx hb dX1_lack_8 rfl (lv_at hl 0 rfl) ?_
    refine lv_iload_n hx hb dX1_lack_9 rfl (lv_at hl 2 rfl) ?_
    refine c_wvi (As := [.int p2]) (ci := 1) (q0 := 0) (kX1_isTick l D cI ad f lo hi T Dv C Tn Dn Cn p2 hT hDv hC hI) ⟨hx, hb, hml, hown, hts⟩ (cwV 1 hts gX1_lack_X1_isTick rfl rfl rfl (by decide +kernel) ⟨Nat.le_of_ble_eq_true rfl, Nat.le_of_ble_eq_true rfl⟩) hK hP hD hS hA rfl rfl rfl rfl hl.1 rfl (Nat.le_of_ble_eq_true rfl) dX1_lack_10 ⟨Nat.zero_le _, Nat.zero_le _⟩ (fun r10 u10 H locs q10 hP hD hS => ?_)
    try dsimp only at q10
    have hP : va_P D vwCl (WX cI ad f lo hi T Dv C) H := hP
    have hD : va_D A (WX cI ad f lo hi T Dv C) := hD
    refine c_if_eq (tgt := 29) hx hb dX1_lack_13 (by decide) (fun c13 => ?_) (fun c13 => ?_)
    · skip
      refine c_iconst hx hb dX1_lack_29 (by decide) (fun v29_2 i29_2 => ?_)
      exact c_rz f hx hb hr hlocks hK hP hD hS dX1_lack_30 (by omega) (Or.inr ⟨by omega, by omega, rfl⟩)
    · skip
      refine lv_aload_n hx hb dX1_lack_16 rfl (lv_at hl 0 rfl) ?_
      refine lv_iload_n hx hb dX1_lack_17 rfl (lv_at hl 3 rfl) ?_
      refine c_wvi (As := [.int p3]) (ci := 1) (q0 := 0) (kX1_isTick l D cI ad f lo hi T Dv C Tn Dn Cn p3 hT hDv hC hI) ⟨hx, hb, hml, hown, hts⟩ (cwV 1 hts gX1_lack_X1_isTick rfl rfl rfl (by decide +kernel) ⟨Nat.le_of_ble_eq_true rfl, Nat.le_of_ble_eq_true rfl⟩) hK hP hD hS hA rfl rfl rfl rfl hl.1 rfl (Nat.le_of_ble_eq_true rfl) dX1_lack_18 ⟨Nat.zero_le _, Nat.zero_le _⟩ (fun r18 u18 H locs q18 hP hD hS => ?_)
      try dsimp only at q18
      have hP : va_P D vwCl (WX cI ad f lo hi T Dv C) H := hP
      have hD : va_D A (WX cI ad f lo hi T Dv C) := hD
      refine c_if_eq (tgt := 29) hx hb dX1_lack_21 (by decide) (fun c21 => ?_) (fun c21 => ?_)
      · skip
        refine c_iconst hx hb dX1_lack_29 (by decide) (fun v29_3 i29_3 => ?_)
        exact c_rz f hx hb hr hlocks hK hP hD hS dX1_lack_30 (by omega) (Or.inr ⟨by omega, by omega, rfl⟩)
      · skip
        refine lv_iload_n hx hb dX1_lack_24 rfl (lv_at hl 2 rfl) ?_
        refine lv_iload_n hx hb dX1_lack_25 rfl (lv_at hl 3 rfl) ?_
        refine c_icmp_le (tgt := 31) hx hb dX1_lack_26 (by decide) (fun c26 => ?_) (fun c26 => ?_)
        · skip
          refine lv_iload_n hx hb dX1_lack_31 rfl (lv_at hl 2 rfl) ?_
          refine lv_istore (lv' := [(4, .int p2), (0, .ref (ad 0)), (1, .int p1), (2, .int p2), (3, .int p3)]) hx hb dX1_lack_32 hl (by decide) rfl (fun ls hl => ?_)
          have HL34 : ∀ (n : Nat) (k : Nat) (x4 : Int32) (f1 : Nat → Nat → Int32) (H : Heap) (locs : List Loc) (ls : Array Slot), (x4.toInt = (p2.toInt.toNat : Int) + (k : Int)) → (k ≤ p3.toInt.toNat + 1 - p2.toInt.toNat) → (p3.toInt.toNat + 2 ≤ p2.toInt.toNat + k + n) → (f1 = lck f p1.toInt.toNat p2.toInt.toNat k) → va_P D vwCl (WX cI ad f1 lo hi T Dv C) H → va_D A (WX cI ad f1 lo hi T Dv C) → va_S A s.heap H locs → lv_has ls 5 [(0, .ref (ad 0)), (1, .int p1), (2, .int p2), (3, .int p3), (4, .int x4)] → W p l e ({ frames := 2, cells := 0, slots := 0, locals := 43 } : Room) s m [.ref (ad 0), .int p1, .int p2, .int p3].toArray below meth c H locs 0 0 (MQ below (va_Qi (fun (r : Int32) (u : Nat → Nat → Int32) => ((((0 ≤ p1.toInt ∧ p1.toInt < (Dn : Int)) ∧ (0 ≤ p2.toInt ∧ p2.toInt < (Tn : Int)) ∧ (0 ≤ p3.toInt ∧ p3.toInt < (Tn : Int)) ∧ p2.toInt ≤ p3.toInt) ∧ r.toInt = 1 ∧ u = lck f p1.toInt.toNat p2.toInt.toNat (p3.toInt.toNat + 1 - p2.toInt.toNat)) ∨ (¬ ((0 ≤ p1.toInt ∧ p1.toInt < (Dn : Int)) ∧ (0 ≤ p2.toInt ∧ p2.toInt < (Tn : Int)) ∧ (0 ≤ p3.toInt ∧ p3.toInt < (Tn : Int)) ∧ p2.toInt ≤ p3.toInt) ∧ r.toInt = 0 ∧ u = f))) (cB D [(cI, .int)] A (fun u : Nat → Nat → Int32 => (WX cI ad u lo hi T Dv C))) A) [.ref (ad 0), .int p1, .int p2, .int p3].toArray s 0 0 A) (F0 m 34 ls []) := by
            intro n
            induction n with
            | zero => intro k x4 f1 H locs ls hx4 hk hms hf1; exact absurd hms (by omega)
            | succ n ih34 =>
              intro k x4 f1 H locs ls hx4 hk hms hf1 hP hD hS hl
              refine lv_iload hx hb dX1_lack_34 (lv_at hl 4 rfl) ?_
              refine lv_iload_n hx hb dX1_lack_36 rfl (lv_at hl 3 rfl) ?_
              refine c_icmp_gt (tgt := 70) hx hb dX1_lack_37 (by decide) (fun c37 => ?_) (fun c37 => ?_)
              · skip
                refine c_iconst hx hb dX1_lack_70 (by decide) (fun v70 i70 => ?_)
                exact c_rz f1 hx hb hr hlocks hK hP hD hS dX1_lack_71 (by omega) (by
                        have hkk : k = p3.toInt.toNat + 1 - p2.toInt.toNat := by omega
                        exact Or.inl ⟨by omega, by omega, by rw [hf1, hkk]⟩)
              · skip
                refine lv_aload_n hx hb dX1_lack_40 rfl (lv_at hl 0 rfl) ?_
                refine va_get (D := D) (ci := 1) (v := .ref (ad 5)) (C := RX1) (T := TX1) (N := 16) hx hb hts inX1 hown hK hP 0 rfl rfl 4 (by decide) fl22 (fun _ h9 => h9) rfl dX1_lack_41 ?_
                refine lv_iload_n hx hb dX1_lack_44 rfl (lv_at hl 1 rfl) ?_
                refine lv_iload hx hb dX1_lack_45 (lv_at hl 4 rfl) ?_
                refine c_cpi (As := [.int p1, .int x4]) (kX1_place l D cI p1 x4 (p1.toInt.toNat) (k + p2.toInt.toNat) (by omega) (by omega) (by omega)) ⟨hx, hb, hml, hown, hts⟩ (va_cwS 2 hts gX1_lack_X1_place rfl rfl rfl (by decide +kernel) ⟨Nat.le_of_ble_eq_true rfl, Nat.le_of_ble_eq_true rfl⟩) hK hP hS hA rfl hl.1 rfl (Nat.le_of_ble_eq_true rfl) dX1_lack_47 ⟨Nat.zero_le _, Nat.zero_le _⟩ (fun r47 H locs q47 hP hS => ?_)
                try dsimp only at q47
                refine c_iconst hx hb dX1_lack_50 (by decide) (fun v50 i50 => ?_)
                refine c_iast hx hb hK hP hD hS 5 0 rfl rfl (60 * p1.toInt.toNat + (p2.toInt.toNat + k)) (by omega) (by omega) (WX cI ad (up2 f1 4 (60 * p1.toInt.toNat + (p2.toInt.toNat + k)) v50) lo hi T Dv C) rfl dX1_lack_51 (fun H locs hP hD hS => ?_)
                refine lv_aload_n hx hb dX1_lack_52 rfl (lv_at hl 0 rfl) ?_
                refine va_get (D := D) (ci := 1) (v := .ref (ad 6)) (C := RX1) (T := TX1) (N := 16) hx hb hts inX1 hown hK hP 0 rfl rfl 5 (by decide) fl25 (fun _ h9 => h9) rfl dX1_lack_53 ?_
                refine lv_iload_n hx hb dX1_lack_56 rfl (lv_at hl 1 rfl) ?_
                refine lv_iload hx hb dX1_lack_57 (lv_at hl 4 rfl) ?_
                refine c_cpi (As := [.int p1, .int x4]) (kX1_place l D cI p1 x4 (p1.toInt.toNat) (k + p2.toInt.toNat) (by omega) (by omega) (by omega)) ⟨hx, hb, hml, hown, hts⟩ (va_cwS 2 hts gX1_lack_X1_place rfl rfl rfl (by decide +kernel) ⟨Nat.le_of_ble_eq_true rfl, Nat.le_of_ble_eq_true rfl⟩) hK hP hS hA rfl hl.1 rfl (Nat.le_of_ble_eq_true rfl) dX1_lack_59 ⟨Nat.zero_le _, Nat.zero_le _⟩ (fun r59 H locs q59 hP hS => ?_)
                try dsimp only at q59
                refine c_iconst hx hb dX1_lack_62 (by decide) (fun v62 i62 => ?_)
                refine c_iast hx hb hK hP hD hS 6 0 rfl rfl (60 * p1.toInt.toNat + (p2.toInt.toNat + k)) (by omega) (by omega) (WX cI ad (up2 (up2 f1 4 (60 * p1.toInt.toNat + (p2.toInt.toNat + k)) v50) 5 (60 * p1.toInt.toNat + (p2.toInt.toNat + k)) v62) lo hi T Dv C) rfl dX1_lack_63 (fun H locs hP hD hS => ?_)
                refine c_iinc (k := 4) hx hb (fun v64 => [(4, .int v64), (0, .ref (ad 0)), (1, .int p1), (2, .int p2), (3, .int p3)]) dX1_lack_64 hl rfl (by decide) (by omega) (by decide) (fun _ => rfl) (fun v64 ls i64 hl => ?_)
                have hl : lv_has ls 5 [(4, .int v64), (0, .ref (ad 0)), (1, .int p1), (2, .int p2), (3, .int p3)] := hl
                refine lv_goto (tgt := 34) hx hb dX1_lack_67 (by decide) ?_
                exact ih34 (k + 1) v64 (up2 (up2 f1 4 (60 * p1.toInt.toNat + (p2.toInt.toNat + k)) v50) 5 (60 * p1.toInt.toNat + (p2.toInt.toNat + k)) v62) _ _ _ (by omega) (by omega) (by omega) (by obtain rfl : v50 = -1 := t_inj (by rw [i50]; rfl); obtain rfl : v62 = -1 := t_inj (by rw [i62]; rfl); rw [hf1]; rfl) hP hD hS (lv_sub hl [1, 2, 3, 4, 0] rfl)
          exact HL34 (p3.toInt.toNat + 2) 0 p2 f _ _ _ (by omega) (by omega) (by omega) rfl hP hD hS (lv_sub hl [1, 2, 3, 4, 0] rfl)
        · skip
          refine c_iconst hx hb dX1_lack_29 (by decide) (fun v29_4 i29_4 => ?_)
          exact c_rz f hx hb hr hlocks hK hP hD hS dX1_lack_30 (by omega) (Or.inr ⟨by omega, by omega, rfl⟩)
set_option maxHeartbeats 4000000 in
set_option maxRecDepth 100000 in
theorem kX1_start (l : Launch) (D : va_G) (cI : ClassId) (ad : Nat → Nat) (f : Nat → Nat → Int32) (lo : Nat → Int32) (hi : Nat → Int32) (T : Int32) (Dv : Int32) (C : Int32) (Tn : Nat) (Dn : Nat) (Cn : Nat) (p1 : Int32) (p2 : Int32) (p3 : Int32) (hT : T.toInt = (Tn : Int)) (hDv : Dv.toInt = (Dn : Int)) (hC : C.toInt = (Cn : Int)) (hI : Inv f Tn Dn Cn) : MI l yX1_start wsX1_start ({ frames := 1, cells := 0, slots := 0, locals := 22 } : Room) D [(cI, .int)] [.ref (ad 0), .int p1, .int p2, .int p3] (WX cI ad f lo hi T Dv C) (fun u : Nat → Nat → Int32 => (WX cI ad u lo hi T Dv C)) (fun (r : Int32) (u : Nat → Nat → Int32) => ((((0 ≤ p1.toInt ∧ p1.toInt ≤ 1) ∧ (0 ≤ p2.toInt ∧ p2.toInt ≤ p3.toInt ∧ p3.toInt ≤ 9999)) ∧ r.toInt = 1 ∧ u = staF f p1.toInt.toNat p2 p3) ∨ (¬ ((0 ≤ p1.toInt ∧ p1.toInt ≤ 1) ∧ (0 ≤ p2.toInt ∧ p2.toInt ≤ p3.toInt ∧ p3.toInt ≤ 9999)) ∧ r.toInt = 0 ∧ u = f))) := by
  refine c_ent (cc := cX1_start) (maxL := 4) (ret := (some .boolean)) (Qc := fun A => va_Qi (fun (r : Int32) (u : Nat → Nat → Int32) => ((((0 ≤ p1.toInt ∧ p1.toInt ≤ 1) ∧ (0 ≤ p2.toInt ∧ p2.toInt ≤ p3.toInt ∧ p3.toInt ≤ 9999)) ∧ r.toInt = 1 ∧ u = staF f p1.toInt.toNat p2 p3) ∨ (¬ ((0 ≤ p1.toInt ∧ p1.toInt ≤ 1) ∧ (0 ≤ p2.toInt ∧ p2.toInt ≤ p3.toInt ∧ p3.toInt ≤ 9999)) ∧ r.toInt = 0 ∧ u = f))) (cB D [(cI, .int)] A (fun u : Nat → Nat → Int32 => (WX cI ad u lo hi T Dv C))) A) (by decide) rfl (Nat.le_of_ble_eq_true rfl) ?_
  intro p e s m below meth c A ls hx hb hr hlocks hts hown hml hK hP hD hA hl
  have hS : va_S A s.heap s.heap [] := va_S.rf
  have hl : lv_has ls 4 [(0, .ref (ad 0)), (1, .int p1), (2, .int p2), (3, .int p3)] := hl
  have hP : va_P D vwCl (WX cI ad f lo hi T Dv C) s.heap := hP
  have fl28 := hts (.fieldLink RX1 28 "DoorBench" "startLow" "[I") (by decide +kernel)
  have fl31 := hts (.fieldLink RX1 31 "DoorBench" "startHigh" "[I") (by decide +kernel)
  have inX1 : ∀ w ∈ wsX10, w ∈ wsX1_start := by decide +kernel
  obtain ⟨hI0, hId, hIr, hIs, hIc⟩ := id hI
  refine lv_iload_n hx hb dX1_start_0 rfl (lv_at hl 1 rfl) ?_
  refine c_iconst hx hb dX1_start_1 (by decide) (fun v1 i1 => ?_)
  refine c_iconst hx hb dX1_start_2 (by decide) (fun v2 i2 => ?_)
  refine c_cpi (As := [.int p1, .int v1, .int v2]) (kX1_within l D cI p1 v1 v2) ⟨hx, hb, hml, hown, hts⟩ (va_cwS 3 hts gX1_start_X1_within rfl rfl rfl (by decide +kernel) ⟨Nat.le_of_ble_eq_true rfl, Nat.le_of_ble_eq_true rfl⟩) hK hP hS hA rfl hl.1 rfl (Nat.le_of_ble_eq_true rfl) dX1_start_3 ⟨Nat.zero_le _, Nat.zero_le _⟩ (fun r3 H locs q3 hP hS => ?_)
  try dsimp only at q3
  refine c_if_eq (tgt := 17) hx hb dX1_start_6 (by decide) (fun c6 => ?_) (fun c6 => ?_)
  · skip
    refine c_iconst hx hb dX1_start_17 (by decide) (fun v17 i17 => ?_)
    exact c_rz f hx hb hr hlocks hK hP hD hS dX1_start_18 (by omega) (Or.inr ⟨by omega, by omega, rfl⟩)
  · skip
    refine lv_iload_n hx hb dX1_start_9 rfl (lv_at hl 2 rfl) ?_
    refine lv_iload_n hx hb dX1_start_10 rfl (lv_at hl 3 rfl) ?_
    refine c_cpi (As := [.int p2, .int p3]) (kX1_isSpanInside l D cI p2 p3) ⟨hx, hb, hml, hown, hts⟩ (va_cwS 2 hts gX1_start_X1_isSpanInside rfl rfl rfl (by decide +kernel) ⟨Nat.le_of_ble_eq_true rfl, Nat.le_of_ble_eq_true rfl⟩) hK hP hS hA rfl hl.1 rfl (Nat.le_of_ble_eq_true rfl) dX1_start_11 ⟨Nat.zero_le _, Nat.zero_le _⟩ (fun r11 H locs q11 hP hS => ?_)
    try dsimp only at q11
    refine c_if_ne (tgt := 19) hx hb dX1_start_14 (by decide) (fun c14 => ?_) (fun c14 => ?_)
    · skip
      refine lv_aload_n hx hb dX1_start_19 rfl (lv_at hl 0 rfl) ?_
      refine va_get (D := D) (ci := 1) (v := .ref (ad 7)) (C := RX1) (T := TX1) (N := 16) hx hb hts inX1 hown hK hP 0 rfl rfl 6 (by decide) fl28 (fun _ h9 => h9) rfl dX1_start_20 ?_
      refine lv_iload_n hx hb dX1_start_23 rfl (lv_at hl 1 rfl) ?_
      refine lv_iload_n hx hb dX1_start_24 rfl (lv_at hl 2 rfl) ?_
      refine c_iast hx hb hK hP hD hS 7 0 rfl rfl (p1.toInt.toNat) (by omega) (by omega) (WX cI ad (up2 f 6 (p1.toInt.toNat) p2) lo hi T Dv C) rfl dX1_start_25 (fun H locs hP hD hS => ?_)
      refine lv_aload_n hx hb dX1_start_26 rfl (lv_at hl 0 rfl) ?_
      refine va_get (D := D) (ci := 1) (v := .ref (ad 8)) (C := RX1) (T := TX1) (N := 16) hx hb hts inX1 hown hK hP 0 rfl rfl 7 (by decide) fl31 (fun _ h9 => h9) rfl dX1_start_27 ?_
      refine lv_iload_n hx hb dX1_start_30 rfl (lv_at hl 1 rfl) ?_
      refine lv_iload_n hx hb dX1_start_31 rfl (lv_at hl 3 rfl) ?_
      refine c_iast hx hb hK hP hD hS 8 0 rfl rfl (p1.toInt.toNat) (by omega) (by omega) (WX cI ad (up2 (up2 f 6 (p1.toInt.toNat) p2) 7 (p1.toInt.toNat) p3) lo hi T Dv C) rfl dX1_start_32 (fun H locs hP hD hS => ?_)
      refine c_iconst hx hb dX1_start_33 (by decide) (fun v33 i33 => ?_)
      exact c_rz (up2 (up2 f 6 (p1.toInt.toNat) p2) 7 (p1.toInt.toNat) p3) hx hb hr hlocks hK hP hD hS dX1_start_34 (by omega) (Or.inl ⟨by omega, by omega, rfl⟩)
    · skip
      refine c_iconst hx hb dX1_start_17 (by decide) (fun v17_2 i17_2 => ?_)
      exact c_rz f hx hb hr hlocks hK hP hD hS dX1_start_18 (by omega) (Or.inr ⟨by omega, by omega, rfl⟩)
set_option maxHeartbeats 4000000 in
set_option maxRecDepth 100000 in
theorem kX1_check (l : Launch) (D : va_G) (cI : ClassId) (ad : Nat → Nat) (f : Nat → Nat → Int32) (lo : Nat → Int32) (hi : Nat → Int32) (T : Int32) (Dv : Int32) (C : Int32) (Tn : Nat) (Dn : Nat) (Cn : Nat) (p1 : Int32) (p2 : Int32) (p3 : Int32) (p4 : Int32) (hT : T.toInt = (Tn : Int)) (hDv : Dv.toInt = (Dn : Int)) (hC : C.toInt = (Cn : Int)) (hI : Inv f Tn Dn Cn) : MI l yX1_check wsX1_check ({ frames := 2, cells := 0, slots := 0, locals := 43 } : Room) D [(cI, .int)] [.ref (ad 0), .int p1, .int p2, .int p3, .int p4] (WX cI ad f lo hi T Dv C) (fun u : (Nat → Nat → Int32) × Int32 => (WX cI ad u.1 lo hi T Dv u.2)) (fun (r : Int32) (u : (Nat → Nat → Int32) × Int32) => (((Cn < 20 ∧ (0 ≤ p1.toInt ∧ p1.toInt ≤ (Tn : Int)) ∧ (0 ≤ p2.toInt ∧ p2.toInt ≤ 2) ∧ (0 ≤ p3.toInt ∧ p3.toInt ≤ p4.toInt ∧ p4.toInt ≤ 9999)) ∧ r.toInt = (Cn : Int) ∧ u.1 = chkF f Cn p1 p2 p3 p4 ∧ u.2.toInt = (Cn : Int) + 1) ∨ (¬ (Cn < 20 ∧ (0 ≤ p1.toInt ∧ p1.toInt ≤ (Tn : Int)) ∧ (0 ≤ p2.toInt ∧ p2.toInt ≤ 2) ∧ (0 ≤ p3.toInt ∧ p3.toInt ≤ p4.toInt ∧ p4.toInt ≤ 9999)) ∧ r.toInt = -1 ∧ u = (f, C)))) := by
  refine c_ent (cc := cX1_check) (maxL := 7) (ret := (some .int)) (Qc := fun A => va_Qi (fun (r : Int32) (u : (Nat → Nat → Int32) × Int32) => (((Cn < 20 ∧ (0 ≤ p1.toInt ∧ p1.toInt ≤ (Tn : Int)) ∧ (0 ≤ p2.toInt ∧ p2.toInt ≤ 2) ∧ (0 ≤ p3.toInt ∧ p3.toInt ≤ p4.toInt ∧ p4.toInt ≤ 9999)) ∧ r.toInt = (Cn : Int) ∧ u.1 = chkF f Cn p1 p2 p3 p4 ∧ u.2.toInt = (Cn : Int) + 1) ∨ (¬ (Cn < 20 ∧ (0 ≤ p1.toInt ∧ p1.toInt ≤ (Tn : Int)) ∧ (0 ≤ p2.toInt ∧ p2.toInt ≤ 2) ∧ (0 ≤ p3.toInt ∧ p3.toInt ≤ p4.toInt ∧ p4.toInt ≤ 9999)) ∧ r.toInt = -1 ∧ u = (f, C)))) (cB D [(cI, .int)] A (fun u : (Nat → Nat → Int32) × Int32 => (WX cI ad u.1 lo hi T Dv u.2))) A) (by decide) rfl (Nat.le_of_ble_eq_true rfl) ?_
  intro p e s m below meth c A ls hx hb hr hlocks hts hown hml hK hP hD hA hl
  have hS : va_S A s.heap s.heap [] := va_S.rf
  have hl : lv_has ls 7 [(0, .ref (ad 0)), (1, .int p1), (2, .int p2), (3, .int p3), (4, .int p4)] := hl
  have hP : va_P D vwCl (WX cI ad f lo hi T Dv C) s.heap := hP
  have fl34 := hts (.fieldLink RX1 34 "DoorBench" "checkTime" "[I") (by decide +kernel)
  have fl37 := hts (.fieldLink RX1 37 "DoorBench" "checkWhat" "[I") (by decide +kernel)
  have fl40 := hts (.fieldLink RX1 40 "DoorBench" "checkLow" "[I") (by decide +kernel)
  have fl43 := hts (.fieldLink RX1 43 "DoorBench" "checkHigh" "[I") (by decide +kernel)
  have fl86 := hts (.fieldLink RX1 86 "DoorBench" "checks" "I") (by decide +kernel)
  have inX1 : ∀ w ∈ wsX10, w ∈ wsX1_check := by decide +kernel
  obtain ⟨hI0, hId, hIr, hIs, hIc⟩ := id hI
  refine lv_aload_n hx hb dX1_check_0 rfl (lv_at hl 0 rfl) ?_
  refine lv_iload_n hx hb dX1_check_1 rfl (lv_at hl 1 rfl) ?_
  refine c_wvi (As := [.int p1]) (ci := 1) (q0 := 0) (kX1_isTime l D cI ad f lo hi T Dv C Tn Dn Cn p1 hT hDv hC hI) ⟨hx, hb, hml, hown, hts⟩ (cwV 1 hts gX1_check_X1_isTime rfl rfl rfl (by decide +kernel) ⟨Nat.le_of_ble_eq_true rfl, Nat.le_of_ble_eq_true rfl⟩) hK hP hD hS hA rfl rfl rfl rfl hl.1 rfl (Nat.le_of_ble_eq_true rfl) dX1_check_2 ⟨Nat.zero_le _, Nat.zero_le _⟩ (fun r2 u2 H locs q2 hP hD hS => ?_)
  try dsimp only at q2
  have hP : va_P D vwCl (WX cI ad f lo hi T Dv C) H := hP
  have hD : va_D A (WX cI ad f lo hi T Dv C) := hD
  refine c_if_eq (tgt := 28) hx hb dX1_check_5 (by decide) (fun c5 => ?_) (fun c5 => ?_)
  · skip
    refine c_iconst hx hb dX1_check_28 (by decide) (fun v28 i28 => ?_)
    refine lv_istore (lv' := [(5, .int v28), (0, .ref (ad 0)), (1, .int p1), (2, .int p2), (3, .int p3), (4, .int p4)]) hx hb dX1_check_29 hl (by decide) rfl (fun ls hl => ?_)
    refine lv_iload hx hb dX1_check_31 (lv_at hl 0 rfl) ?_
    refine c_if_eq (tgt := 45) hx hb dX1_check_33 (by decide) (fun c33 => ?_) (fun c33 => absurd c33 (by omega))
    refine c_iconst hx hb dX1_check_45 (by decide) (fun v45 i45 => ?_)
    exact c_ri (f, C) hx hb hr hlocks hK hP hD hS dX1_check_46 (Or.inr ⟨by omega, by omega, rfl⟩)
  · skip
    refine lv_iload_n hx hb dX1_check_8 rfl (lv_at hl 2 rfl) ?_
    refine c_cpi (As := [.int p2]) (kX1_isWhat l D cI p2) ⟨hx, hb, hml, hown, hts⟩ (va_cwS 1 hts gX1_check_X1_isWhat rfl rfl rfl (by decide +kernel) ⟨Nat.le_of_ble_eq_true rfl, Nat.le_of_ble_eq_true rfl⟩) hK hP hS hA rfl hl.1 rfl (Nat.le_of_ble_eq_true rfl) dX1_check_9 ⟨Nat.zero_le _, Nat.zero_le _⟩ (fun r9 H locs q9 hP hS => ?_)
    try dsimp only at q9
    refine c_if_eq (tgt := 28) hx hb dX1_check_12 (by decide) (fun c12 => ?_) (fun c12 => ?_)
    · skip
      refine c_iconst hx hb dX1_check_28 (by decide) (fun v28_2 i28_2 => ?_)
      refine lv_istore (lv' := [(5, .int v28_2), (0, .ref (ad 0)), (1, .int p1), (2, .int p2), (3, .int p3), (4, .int p4)]) hx hb dX1_check_29 hl (by decide) rfl (fun ls hl => ?_)
      refine lv_iload hx hb dX1_check_31 (lv_at hl 0 rfl) ?_
      refine c_if_eq (tgt := 45) hx hb dX1_check_33 (by decide) (fun c33_2 => ?_) (fun c33_2 => absurd c33_2 (by omega))
      refine c_iconst hx hb dX1_check_45 (by decide) (fun v45_2 i45_2 => ?_)
      exact c_ri (f, C) hx hb hr hlocks hK hP hD hS dX1_check_46 (Or.inr ⟨by omega, by omega, rfl⟩)
    · skip
      refine lv_iload_n hx hb dX1_check_15 rfl (lv_at hl 3 rfl) ?_
      refine lv_iload hx hb dX1_check_16 (lv_at hl 4 rfl) ?_
      refine c_cpi (As := [.int p3, .int p4]) (kX1_isSpanInside l D cI p3 p4) ⟨hx, hb, hml, hown, hts⟩ (va_cwS 2 hts gX1_check_X1_isSpanInside rfl rfl rfl (by decide +kernel) ⟨Nat.le_of_ble_eq_true rfl, Nat.le_of_ble_eq_true rfl⟩) hK hP hS hA rfl hl.1 rfl (Nat.le_of_ble_eq_true rfl) dX1_check_18 ⟨Nat.zero_le _, Nat.zero_le _⟩ (fun r18 H locs q18 hP hS => ?_)
      try dsimp only at q18
      refine c_if_eq (tgt := 28) hx hb dX1_check_21 (by decide) (fun c21 => ?_) (fun c21 => ?_)
      · skip
        refine c_iconst hx hb dX1_check_28 (by decide) (fun v28_3 i28_3 => ?_)
        refine lv_istore (lv' := [(5, .int v28_3), (0, .ref (ad 0)), (1, .int p1), (2, .int p2), (3, .int p3), (4, .int p4)]) hx hb dX1_check_29 hl (by decide) rfl (fun ls hl => ?_)
        refine lv_iload hx hb dX1_check_31 (lv_at hl 0 rfl) ?_
        refine c_if_eq (tgt := 45) hx hb dX1_check_33 (by decide) (fun c33_3 => ?_) (fun c33_3 => absurd c33_3 (by omega))
        refine c_iconst hx hb dX1_check_45 (by decide) (fun v45_3 i45_3 => ?_)
        exact c_ri (f, C) hx hb hr hlocks hK hP hD hS dX1_check_46 (Or.inr ⟨by omega, by omega, rfl⟩)
      · skip
        refine c_iconst hx hb dX1_check_24 (by decide) (fun v24 i24 => ?_)
        refine lv_goto (tgt := 29) hx hb dX1_check_25 (by decide) ?_
        refine lv_istore (lv' := [(5, .int v24), (0, .ref (ad 0)), (1, .int p1), (2, .int p2), (3, .int p3), (4, .int p4)]) hx hb dX1_check_29 hl (by decide) rfl (fun ls hl => ?_)
        refine lv_iload hx hb dX1_check_31 (lv_at hl 0 rfl) ?_
        refine c_if_eq (tgt := 45) hx hb dX1_check_33 (by decide) (fun c33_4 => absurd c33_4 (by omega)) (fun c33_4 => ?_)
        refine lv_aload_n hx hb dX1_check_36 rfl (lv_at hl 1 rfl) ?_
        refine va_get (D := D) (ci := 1) (v := .int C) (C := RX1) (T := TX1) (N := 16) hx hb hts inX1 hown hK hP 0 rfl rfl 15 (by decide) fl86 (fun _ h9 => h9) rfl dX1_check_37 ?_
        refine c_bipush hx hb dX1_check_40 (by decide) (fun v40 i40 => ?_)
        refine c_icmp_lt (tgt := 47) hx hb dX1_check_42 (by decide) (fun c42 => ?_) (fun c42 => ?_)
        · skip
          refine lv_aload_n hx hb dX1_check_47 rfl (lv_at hl 1 rfl) ?_
          refine va_get (D := D) (ci := 1) (v := .int C) (C := RX1) (T := TX1) (N := 16) hx hb hts inX1 hown hK hP 0 rfl rfl 15 (by decide) fl86 (fun _ h9 => h9) rfl dX1_check_48 ?_
          refine lv_istore (lv' := [(6, .int C), (5, .int v24), (0, .ref (ad 0)), (1, .int p1), (2, .int p2), (3, .int p3), (4, .int p4)]) hx hb dX1_check_51 hl (by decide) rfl (fun ls hl => ?_)
          refine lv_aload_n hx hb dX1_check_53 rfl (lv_at hl 2 rfl) ?_
          refine va_get (D := D) (ci := 1) (v := .ref (ad 9)) (C := RX1) (T := TX1) (N := 16) hx hb hts inX1 hown hK hP 0 rfl rfl 8 (by decide) fl34 (fun _ h9 => h9) rfl dX1_check_54 ?_
          refine lv_iload hx hb dX1_check_57 (lv_at hl 0 rfl) ?_
          refine lv_iload_n hx hb dX1_check_59 rfl (lv_at hl 3 rfl) ?_
          refine c_iast hx hb hK hP hD hS 9 0 rfl rfl (Cn) (by omega) (by omega) (WX cI ad (up2 f 8 (Cn) p1) lo hi T Dv C) rfl dX1_check_60 (fun H locs hP hD hS => ?_)
          refine lv_aload_n hx hb dX1_check_61 rfl (lv_at hl 2 rfl) ?_
          refine va_get (D := D) (ci := 1) (v := .ref (ad 10)) (C := RX1) (T := TX1) (N := 16) hx hb hts inX1 hown hK hP 0 rfl rfl 9 (by decide) fl37 (fun _ h9 => h9) rfl dX1_check_62 ?_
          refine lv_iload hx hb dX1_check_65 (lv_at hl 0 rfl) ?_
          refine lv_iload_n hx hb dX1_check_67 rfl (lv_at hl 4 rfl) ?_
          refine c_iast hx hb hK hP hD hS 10 0 rfl rfl (Cn) (by omega) (by omega) (WX cI ad (up2 (up2 f 8 (Cn) p1) 9 (Cn) p2) lo hi T Dv C) rfl dX1_check_68 (fun H locs hP hD hS => ?_)
          refine lv_aload_n hx hb dX1_check_69 rfl (lv_at hl 2 rfl) ?_
          refine va_get (D := D) (ci := 1) (v := .ref (ad 11)) (C := RX1) (T := TX1) (N := 16) hx hb hts inX1 hown hK hP 0 rfl rfl 10 (by decide) fl40 (fun _ h9 => h9) rfl dX1_check_70 ?_
          refine lv_iload hx hb dX1_check_73 (lv_at hl 0 rfl) ?_
          refine lv_iload_n hx hb dX1_check_75 rfl (lv_at hl 5 rfl) ?_
          refine c_iast hx hb hK hP hD hS 11 0 rfl rfl (Cn) (by omega) (by omega) (WX cI ad (up2 (up2 (up2 f 8 (Cn) p1) 9 (Cn) p2) 10 (Cn) p3) lo hi T Dv C) rfl dX1_check_76 (fun H locs hP hD hS => ?_)
          refine lv_aload_n hx hb dX1_check_77 rfl (lv_at hl 2 rfl) ?_
          refine va_get (D := D) (ci := 1) (v := .ref (ad 12)) (C := RX1) (T := TX1) (N := 16) hx hb hts inX1 hown hK hP 0 rfl rfl 11 (by decide) fl43 (fun _ h9 => h9) rfl dX1_check_78 ?_
          refine lv_iload hx hb dX1_check_81 (lv_at hl 0 rfl) ?_
          refine lv_iload hx hb dX1_check_83 (lv_at hl 6 rfl) ?_
          refine c_iast hx hb hK hP hD hS 12 0 rfl rfl (Cn) (by omega) (by omega) (WX cI ad (up2 (up2 (up2 (up2 f 8 (Cn) p1) 9 (Cn) p2) 10 (Cn) p3) 11 (Cn) p4) lo hi T Dv C) rfl dX1_check_85 (fun H locs hP hD hS => ?_)
          refine lv_aload_n hx hb dX1_check_86 rfl (lv_at hl 2 rfl) ?_
          refine lv_iload hx hb dX1_check_87 (lv_at hl 0 rfl) ?_
          refine c_iconst hx hb dX1_check_89 (by decide) (fun v89 i89 => ?_)
          refine c_iadd hx hb dX1_check_90 (by omega) (fun v90 i90 => ?_)
          refine c_put (D := D) (ci := 1) (C := RX1) (T := TX1) (N := 16) hx hb hts inX1 tyX1 tyX1_ok nmX1 hown hK hP hD hS 0 rfl rfl 15 (by decide) fl86 (fun _ h9 => h9) rfl (by decide +kernel) (Nat.le_of_ble_eq_true rfl) (WX cI ad (up2 (up2 (up2 (up2 f 8 (Cn) p1) 9 (Cn) p2) 10 (Cn) p3) 11 (Cn) p4) lo hi T Dv v90) rfl dX1_check_91 (fun H locs hP hD hS => ?_)
          refine lv_iload hx hb dX1_check_94 (lv_at hl 0 rfl) ?_
          exact c_ri ((up2 (up2 (up2 (up2 f 8 (Cn) p1) 9 (Cn) p2) 10 (Cn) p3) 11 (Cn) p4), v90) hx hb hr hlocks hK hP hD hS dX1_check_96 (Or.inl ⟨by omega, by omega, rfl, by (try dsimp only); omega⟩)
        · skip
          refine c_iconst hx hb dX1_check_45 (by decide) (fun v45_4 i45_4 => ?_)
          exact c_ri (f, C) hx hb hr hlocks hK hP hD hS dX1_check_46 (Or.inr ⟨by omega, by omega, rfl⟩)
set_option maxHeartbeats 4000000 in
set_option maxRecDepth 100000 in
theorem kX1_uncheck (l : Launch) (D : va_G) (cI : ClassId) (ad : Nat → Nat) (f : Nat → Nat → Int32) (lo : Nat → Int32) (hi : Nat → Int32) (T : Int32) (Dv : Int32) (C : Int32) (Tn : Nat) (Dn : Nat) (Cn : Nat) (hT : T.toInt = (Tn : Int)) (hDv : Dv.toInt = (Dn : Int)) (hC : C.toInt = (Cn : Int)) (hI : Inv f Tn Dn Cn) : MI l yX1_uncheck wsX1_uncheck ({ frames := 0, cells := 0, slots := 0, locals := 0 } : Room) D [(cI, .int)] [.ref (ad 0)] (WX cI ad f lo hi T Dv C) (fun u : Int32 => (WX cI ad f lo hi T Dv u)) (fun (r : Int32) (u : Int32) => ((0 < Cn ∧ r.toInt = (Cn : Int) - 1 ∧ u.toInt = (Cn : Int) - 1) ∨ (Cn = 0 ∧ r.toInt = -1 ∧ u = C))) := by
  refine c_ent (cc := cX1_uncheck) (maxL := 1) (ret := (some .int)) (Qc := fun A => va_Qi (fun (r : Int32) (u : Int32) => ((0 < Cn ∧ r.toInt = (Cn : Int) - 1 ∧ u.toInt = (Cn : Int) - 1) ∨ (Cn = 0 ∧ r.toInt = -1 ∧ u = C))) (cB D [(cI, .int)] A (fun u : Int32 => (WX cI ad f lo hi T Dv u))) A) (by decide) rfl (Nat.le_of_ble_eq_true rfl) ?_
  intro p e s m below meth c A ls hx hb hr hlocks hts hown hml hK hP hD hA hl
  have hS : va_S A s.heap s.heap [] := va_S.rf
  have hl : lv_has ls 1 [(0, .ref (ad 0))] := hl
  have hP : va_P D vwCl (WX cI ad f lo hi T Dv C) s.heap := hP
  have fl86 := hts (.fieldLink RX1 86 "DoorBench" "checks" "I") (by decide +kernel)
  have inX1 : ∀ w ∈ wsX10, w ∈ wsX1_uncheck := by decide +kernel
  obtain ⟨hI0, hId, hIr, hIs, hIc⟩ := id hI
  refine lv_aload_n hx hb dX1_uncheck_0 rfl (lv_at hl 0 rfl) ?_
  refine va_get (D := D) (ci := 1) (v := .int C) (C := RX1) (T := TX1) (N := 16) hx hb hts inX1 hown hK hP 0 rfl rfl 15 (by decide) fl86 (fun _ h9 => h9) rfl dX1_uncheck_1 ?_
  refine c_if_ne (tgt := 9) hx hb dX1_uncheck_4 (by decide) (fun c4 => ?_) (fun c4 => ?_)
  · skip
    refine lv_aload_n hx hb dX1_uncheck_9 rfl (lv_at hl 0 rfl) ?_
    refine lv_dup hx hb dX1_uncheck_10 rfl ?_
    refine va_get (D := D) (ci := 1) (v := .int C) (C := RX1) (T := TX1) (N := 16) hx hb hts inX1 hown hK hP 0 rfl rfl 15 (by decide) fl86 (fun _ h9 => h9) rfl dX1_uncheck_11 ?_
    refine c_iconst hx hb dX1_uncheck_14 (by decide) (fun v14 i14 => ?_)
    refine c_isub hx hb dX1_uncheck_15 (by omega) (fun v15 i15 => ?_)
    refine c_put (D := D) (ci := 1) (C := RX1) (T := TX1) (N := 16) hx hb hts inX1 tyX1 tyX1_ok nmX1 hown hK hP hD hS 0 rfl rfl 15 (by decide) fl86 (fun _ h9 => h9) rfl (by decide +kernel) (Nat.le_of_ble_eq_true rfl) (WX cI ad f lo hi T Dv v15) rfl dX1_uncheck_16 (fun H locs hP hD hS => ?_)
    refine lv_aload_n hx hb dX1_uncheck_19 rfl (lv_at hl 0 rfl) ?_
    refine va_get (D := D) (ci := 1) (v := .int v15) (C := RX1) (T := TX1) (N := 16) hx hb hts inX1 hown hK hP 0 rfl rfl 15 (by decide) fl86 (fun _ h9 => h9) rfl dX1_uncheck_20 ?_
    exact c_ri v15 hx hb hr hlocks hK hP hD hS dX1_uncheck_23 (Or.inl ⟨by omega, by omega, by (try dsimp only); omega⟩)
  · skip
    refine c_iconst hx hb dX1_uncheck_7 (by decide) (fun v7 i7 => ?_)
    exact c_ri C hx hb hr hlocks hK hP hD hS dX1_uncheck_8 (Or.inr ⟨by omega, by omega, rfl⟩)
