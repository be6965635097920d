set_option maxHeartbeats 4000000 in
set_option maxRecDepth 100000 in
theorem kX1_keepAllowed (l : Launch) (D : va_G) (cI : ClassId) (ad : Nat → Nat) (f : Nat → Nat → Int32) (lo : Nat → Int32) (hi : Nat → Int32) (T : Int32) (Dv : Int32) (C : Int32) (Tn : Nat) (Dn : Nat) (Cn : Nat) (p1 : Int32) (t : Nat) (hT : T.toInt = (Tn : Int)) (hDv : Dv.toInt = (Dn : Int)) (hC : C.toInt = (Cn : Int)) (hI : Inv f Tn Dn Cn) (ht : p1.toInt = (t : Int)) (htn : t ≤ 60) (hbt : bd (rwX lo hi t) 1000000) : MI l yX1_keepAllowed wsX1_keepAllowed ({ frames := 4, cells := 0, slots := 0, locals := 92 } : Room) D [(cI, .int)] [.ref (ad 0), .int p1] (WX cI ad f lo hi T Dv C) (fun u : (Nat → Int32) × (Nat → Int32) => (WX cI ad f u.1 u.2 T Dv C)) (fun (r : Int32) (u : (Nat → Int32) × (Nat → Int32)) => ((r.toInt = 1 ∧ Tt (rwX u.1 u.2 t) (fun a b => inR (rwX lo hi t) a b ∧ alw f t Cn a b)) ∨ (r.toInt = 0 ∧ ∀ a b, ¬ (inR (rwX lo hi t) a b ∧ alw f t Cn a b))) ∧ (∀ j, (j < 3 * t ∨ 3 * t + 3 ≤ j) → u.1 j = lo j ∧ u.2 j = hi j)) := by
  refine c_ent (cc := cX1_keepAllowed) (maxL := 3) (ret := (some .boolean)) (Qc := fun A => va_Qi (fun (r : Int32) (u : (Nat → Int32) × (Nat → Int32)) => ((r.toInt = 1 ∧ Tt (rwX u.1 u.2 t) (fun a b => inR (rwX lo hi t) a b ∧ alw f t Cn a b)) ∨ (r.toInt = 0 ∧ ∀ a b, ¬ (inR (rwX lo hi t) a b ∧ alw f t Cn a b))) ∧ (∀ j, (j < 3 * t ∨ 3 * t + 3 ≤ j) → u.1 j = lo j ∧ u.2 j = hi j)) (cB D [(cI, .int)] A (fun u : (Nat → Int32) × (Nat → Int32) => (WX cI ad f u.1 u.2 T Dv C))) A) (by decide) rfl (Nat.le_of_ble_eq_true rfl) ?_
  intro p e s m below meth c A ls hx hb hr hlocks hts hown hml hK hP hD hA hl
  have hS : va_S A s.heap s.heap [] := va_S.rf
  have hl : lv_has ls 3 [(0, .ref (ad 0)), (1, .int p1)] := hl
  have hP : va_P D vwCl (WX cI ad f lo hi T Dv C) s.heap := hP
  have fl34 := hts (.fieldLink RX1 34 "DoorBench" "checkTime" "[I") (by decide +kernel)
  have fl37 := hts (.fieldLink RX1 37 "DoorBench" "checkWhat" "[I") (by decide +kernel)
  have fl40 := hts (.fieldLink RX1 40 "DoorBench" "checkLow" "[I") (by decide +kernel)
  have fl43 := hts (.fieldLink RX1 43 "DoorBench" "checkHigh" "[I") (by decide +kernel)
  have fl49 := hts (.fieldLink RX1 49 "DoorBench" "spans" "LDoorBench$Spans;") (by decide +kernel)
  have fl86 := hts (.fieldLink RX1 86 "DoorBench" "checks" "I") (by decide +kernel)
  have inX1 : ∀ w ∈ wsX10, w ∈ wsX1_keepAllowed := by decide +kernel
  obtain ⟨hI0, hId, hIr, hIs, hIc⟩ := id hI
  refine lv_aload_n hx hb dX1_keepAllowed_0 rfl (lv_at hl 0 rfl) ?_
  refine va_get (D := D) (ci := 1) (v := .ref (ad 13)) (C := RX1) (T := TX1) (N := 16) hx hb hts inX1 hown hK hP 0 rfl rfl 12 (by decide) fl49 (fun _ h9 => h9) rfl dX1_keepAllowed_1 ?_
  refine lv_iload_n hx hb dX1_keepAllowed_4 rfl (lv_at hl 1 rfl) ?_
  refine c_iconst hx hb dX1_keepAllowed_5 (by decide) (fun v5 i5 => ?_)
  refine c_iconst hx hb dX1_keepAllowed_6 (by decide) (fun v6 i6 => ?_)
  refine c_ldc (n := 1000000) hx hb hown (hts (.constant RX1 188 (1000000)) (by decide +kernel)) dX1_keepAllowed_7 (by decide) (fun v7 i7 => ?_)
  refine c_cvv (As := [.int p1, .int v5, .int v6, .int v7]) (ci := 0) (q0 := 0) (wr := [((ad 0), .inr (1, [.ref (ad 1), .ref (ad 2), .ref (ad 3), .ref (ad 4), .ref (ad 5), .ref (ad 6), .ref (ad 7), .ref (ad 8), .ref (ad 9), .ref (ad 10), .ref (ad 11), .ref (ad 12), .ref (ad 13), .int T, .int Dv, .int C])), ((ad 1), .inl (cI, 6, .inl (f 0))), ((ad 2), .inl (cI, 6, .inl (f 1))), ((ad 3), .inl (cI, 6, .inl (f 2))), ((ad 4), .inl (cI, 6, .inl (f 3))), ((ad 5), .inl (cI, 360, .inl (f 4))), ((ad 6), .inl (cI, 360, .inl (f 5))), ((ad 7), .inl (cI, 2, .inl (f 6))), ((ad 8), .inl (cI, 2, .inl (f 7))), ((ad 9), .inl (cI, 20, .inl (f 8))), ((ad 10), .inl (cI, 20, .inl (f 9))), ((ad 11), .inl (cI, 20, .inl (f 10))), ((ad 12), .inl (cI, 20, .inl (f 11)))]) (wF := (fun uZ => (WX cI ad f (upd lo (3 * (t) + (0)) uZ.1) (upd hi (3 * (t) + (0)) uZ.2) T Dv C))) (kX0_cut l D cI ad lo hi p1 v5 v6 v7 (t) (0) (by omega) (by omega) (by omega) (by omega)) ⟨hx, hb, hml, hown, hts⟩ (cwV 4 hts gX1_keepAllowed_X0_cut rfl rfl rfl (by decide +kernel) ⟨Nat.le_of_ble_eq_true rfl, Nat.le_of_ble_eq_true rfl⟩) hK hP hD hS hA [13, 14, 15] [0, 1, 2, 3, 4, 5, 6, 7, 8, 9, 10, 11, 12] [0, 1, 2, 3, 4, 5, 6, 7, 8, 9, 10, 11, 12, 13, 14, 15] rfl (by decide) rfl (by decide) (by decide) (by decide) (fun _ => rfl) rfl rfl rfl rfl hl.1 rfl (Nat.le_of_ble_eq_true rfl) dX1_keepAllowed_9 ⟨Nat.zero_le _, Nat.zero_le _⟩ (fun u9 H locs q9 hP hD hS => ?_)
  try dsimp only at q9
  have hP : va_P D vwCl (WX cI ad f (upd lo (3 * (t) + (0)) u9.1) (upd hi (3 * (t) + (0)) u9.2) T Dv C) H := hP
  have hD : va_D A (WX cI ad f (upd lo (3 * (t) + (0)) u9.1) (upd hi (3 * (t) + (0)) u9.2) T Dv C) := hD
  refine lv_aload_n hx hb dX1_keepAllowed_12 rfl (lv_at hl 0 rfl) ?_
  refine va_get (D := D) (ci := 1) (v := .ref (ad 13)) (C := RX1) (T := TX1) (N := 16) hx hb hts inX1 hown hK hP 0 rfl rfl 12 (by decide) fl49 (fun _ h9 => h9) rfl dX1_keepAllowed_13 ?_
  refine lv_iload_n hx hb dX1_keepAllowed_16 rfl (lv_at hl 1 rfl) ?_
  refine c_iconst hx hb dX1_keepAllowed_17 (by decide) (fun v17 i17 => ?_)
  refine c_iconst hx hb dX1_keepAllowed_18 (by decide) (fun v18 i18 => ?_)
  refine c_ldc (n := 1000000) hx hb hown (hts (.constant RX1 188 (1000000)) (by decide +kernel)) dX1_keepAllowed_19 (by decide) (fun v19 i19 => ?_)
  refine c_cvv (As := [.int p1, .int v17, .int v18, .int v19]) (ci := 0) (q0 := 0) (wr := [((ad 0), .inr (1, [.ref (ad 1), .ref (ad 2), .ref (ad 3), .ref (ad 4), .ref (ad 5), .ref (ad 6), .ref (ad 7), .ref (ad 8), .ref (ad 9), .ref (ad 10), .ref (ad 11), .ref (ad 12), .ref (ad 13), .int T, .int Dv, .int C])), ((ad 1), .inl (cI, 6, .inl (f 0))), ((ad 2), .inl (cI, 6, .inl (f 1))), ((ad 3), .inl (cI, 6, .inl (f 2))), ((ad 4), .inl (cI, 6, .inl (f 3))), ((ad 5), .inl (cI, 360, .inl (f 4))), ((ad 6), .inl (cI, 360, .inl (f 5))), ((ad 7), .inl (cI, 2, .inl (f 6))), ((ad 8), .inl (cI, 2, .inl (f 7))), ((ad 9), .inl (cI, 20, .inl (f 8))), ((ad 10), .inl (cI, 20, .inl (f 9))), ((ad 11), .inl (cI, 20, .inl (f 10))), ((ad 12), .inl (cI, 20, .inl (f 11)))]) (wF := (fun uZ => (WX cI ad f (upd (upd lo (3 * (t) + (0)) u9.1) (3 * (t) + (1)) uZ.1) (upd (upd hi (3 * (t) + (0)) u9.2) (3 * (t) + (1)) uZ.2) T Dv C))) (kX0_cut l D cI ad (upd lo (3 * (t) + (0)) u9.1) (upd hi (3 * (t) + (0)) u9.2) p1 v17 v18 v19 (t) (1) (by omega) (by omega) (by omega) (by omega)) ⟨hx, hb, hml, hown, hts⟩ (cwV 4 hts gX1_keepAllowed_X0_cut rfl rfl rfl (by decide +kernel) ⟨Nat.le_of_ble_eq_true rfl, Nat.le_of_ble_eq_true rfl⟩) hK hP hD hS hA [13, 14, 15] [0, 1, 2, 3, 4, 5, 6, 7, 8, 9, 10, 11, 12] [0, 1, 2, 3, 4, 5, 6, 7, 8, 9, 10, 11, 12, 13, 14, 15] rfl (by decide) rfl (by decide) (by decide) (by decide) (fun _ => rfl) rfl rfl rfl rfl hl.1 rfl (Nat.le_of_ble_eq_true rfl) dX1_keepAllowed_21 ⟨Nat.zero_le _, Nat.zero_le _⟩ (fun u21 H locs q21 hP hD hS => ?_)
  try dsimp only at q21
  have hP : va_P D vwCl (WX cI ad f (upd (upd lo (3 * (t) + (0)) u9.1) (3 * (t) + (1)) u21.1) (upd (upd hi (3 * (t) + (0)) u9.2) (3 * (t) + (1)) u21.2) T Dv C) H := hP
  have hD : va_D A (WX cI ad f (upd (upd lo (3 * (t) + (0)) u9.1) (3 * (t) + (1)) u21.1) (upd (upd hi (3 * (t) + (0)) u9.2) (3 * (t) + (1)) u21.2) T Dv C) := hD
  have B0 := cut_bd (l := v6.toInt) (h := v7.toInt) (by omega) q9.1 q9.2 hbt (by omega) (by omega)
  have N0 := cut_in (l := v6.toInt) (h := v7.toInt) (by omega) q9.1 q9.2
  have B1 := cut_bd (l := v18.toInt) (h := v19.toInt) (by omega) q21.1 q21.2 B0 (by omega) (by omega)
  have N1 := cut_in (l := v18.toInt) (h := v19.toInt) (by omega) q21.1 q21.2
  have hin0 : ∀ a b, inR (rwX (upd (upd lo (3 * (t) + (0)) u9.1) (3 * (t) + (1)) u21.1) (upd (upd hi (3 * (t) + (0)) u9.2) (3 * (t) + (1)) u21.2) t) a b ↔ inR (rwX lo hi t) a b ∧ alw f t 0 a b := by
    intro a b
    rw [N1 a b, N0 a b]
    show _ ↔ _ ∧ (0 ≤ a ∧ 0 ≤ b)
    obtain ⟨z0, z1, z2, z3, z4, z5⟩ := id hbt
    unfold inR; omega
  have hfr0 : (∀ j, (j < 3 * t ∨ 3 * t + 3 ≤ j) → (upd (upd lo (3 * (t) + (0)) u9.1) (3 * (t) + (1)) u21.1) j = lo j ∧ (upd (upd hi (3 * (t) + (0)) u9.2) (3 * (t) + (1)) u21.2) j = hi j) := fun j hj => ⟨(pk_un (by omega)).trans (pk_un (by omega)), (pk_un (by omega)).trans (pk_un (by omega))⟩
  refine c_iconst hx hb dX1_keepAllowed_24 (by decide) (fun v24 i24 => ?_)
  refine lv_istore_n (lv' := [(2, .int v24), (0, .ref (ad 0)), (1, .int p1)]) hx hb dX1_keepAllowed_25 rfl hl (by decide) rfl (fun ls hl => ?_)
  have HL26 : ∀ (n : Nat) (q : Nat) (x2 : Int32) (lo1 : Nat → Int32) (hi1 : Nat → Int32) (H : Heap) (locs : List Loc) (ls : Array Slot), (x2.toInt = (q : Int)) → (q ≤ Cn) → (Cn + 1 ≤ q + n) → (∀ a b, inR (rwX lo1 hi1 t) a b ↔ inR (rwX lo hi t) a b ∧ alw f t q a b) → (bd (rwX lo1 hi1 t) 1000000) → ((∀ j, (j < 3 * t ∨ 3 * t + 3 ≤ j) → lo1 j = lo j ∧ hi1 j = hi j)) → va_P D vwCl (WX cI ad f lo1 hi1 T Dv C) H → va_D A (WX cI ad f lo1 hi1 T Dv C) → va_S A s.heap H locs → lv_has ls 3 [(0, .ref (ad 0)), (1, .int p1), (2, .int x2)] → W p l e ({ frames := 4, cells := 0, slots := 0, locals := 92 } : Room) s m [.ref (ad 0), .int p1].toArray below meth c H locs 0 0 (MQ below (va_Qi (fun (r : Int32) (u : (Nat → Int32) × (Nat → Int32)) => ((r.toInt = 1 ∧ Tt (rwX u.1 u.2 t) (fun a b => inR (rwX lo hi t) a b ∧ alw f t Cn a b)) ∨ (r.toInt = 0 ∧ ∀ a b, ¬ (inR (rwX lo hi t) a b ∧ alw f t Cn a b))) ∧ (∀ j, (j < 3 * t ∨ 3 * t + 3 ≤ j) → u.1 j = lo j ∧ u.2 j = hi j)) (cB D [(cI, .int)] A (fun u : (Nat → Int32) × (Nat → Int32) => (WX cI ad f u.1 u.2 T Dv C))) A) [.ref (ad 0), .int p1].toArray s 0 0 A) (F0 m 26 ls []) := by
    intro n
    induction n with
    | zero => intro q x2 lo1 hi1 H locs ls hx2 hq hms hin hb1 hfr; exact absurd hms (by omega)
    | succ n ih26 =>
      intro q x2 lo1 hi1 H locs ls hx2 hq hms hin hb1 hfr hP hD hS hl
      refine lv_iload_n hx hb dX1_keepAllowed_26 rfl (lv_at hl 2 rfl) ?_
      refine lv_aload_n hx hb dX1_keepAllowed_27 rfl (lv_at hl 0 rfl) ?_
      refine va_get (D := D) (ci := 1) (v := .int C) (C := RX1) (T := TX1) (N := 16) hx hb hts inX1 hown hK hP 0 rfl rfl 15 (by decide) fl86 (fun _ h9 => h9) rfl dX1_keepAllowed_28 ?_
      refine c_icmp_ge (tgt := 76) hx hb dX1_keepAllowed_31 (by decide) (fun c31 => ?_) (fun c31 => ?_)
      · skip
        refine lv_aload_n hx hb dX1_keepAllowed_76 rfl (lv_at hl 0 rfl) ?_
        refine va_get (D := D) (ci := 1) (v := .ref (ad 13)) (C := RX1) (T := TX1) (N := 16) hx hb hts inX1 hown hK hP 0 rfl rfl 12 (by decide) fl49 (fun _ h9 => h9) rfl dX1_keepAllowed_77 ?_
        refine lv_iload_n hx hb dX1_keepAllowed_80 rfl (lv_at hl 1 rfl) ?_
        refine c_cvi (As := [.int p1]) (ci := 0) (q0 := 0) (wr := [((ad 0), .inr (1, [.ref (ad 1), .ref (ad 2), .ref (ad 3), .ref (ad 4), .ref (ad 5), .ref (ad 6), .ref (ad 7), .ref (ad 8), .ref (ad 9), .ref (ad 10), .ref (ad 11), .ref (ad 12), .ref (ad 13), .int T, .int Dv, .int C])), ((ad 1), .inl (cI, 6, .inl (f 0))), ((ad 2), .inl (cI, 6, .inl (f 1))), ((ad 3), .inl (cI, 6, .inl (f 2))), ((ad 4), .inl (cI, 6, .inl (f 3))), ((ad 5), .inl (cI, 360, .inl (f 4))), ((ad 6), .inl (cI, 360, .inl (f 5))), ((ad 7), .inl (cI, 2, .inl (f 6))), ((ad 8), .inl (cI, 2, .inl (f 7))), ((ad 9), .inl (cI, 20, .inl (f 8))), ((ad 10), .inl (cI, 20, .inl (f 9))), ((ad 11), .inl (cI, 20, .inl (f 10))), ((ad 12), .inl (cI, 20, .inl (f 11)))]) (wF := (fun uZ => (WX cI ad f uZ.1 uZ.2 T Dv C))) (kX0_tighten l D cI ad lo1 hi1 p1 (t) (by omega) (by omega) (by obtain ⟨z0, z1, z2, z3, z4, z5⟩ := id hb1; unfold bd; omega)) ⟨hx, hb, hml, hown, hts⟩ (cwV 1 hts gX1_keepAllowed_X0_tighten rfl rfl rfl (by decide +kernel) ⟨Nat.le_of_ble_eq_true rfl, Nat.le_of_ble_eq_true rfl⟩) hK hP hD hS hA [13, 14, 15] [0, 1, 2, 3, 4, 5, 6, 7, 8, 9, 10, 11, 12] [0, 1, 2, 3, 4, 5, 6, 7, 8, 9, 10, 11, 12, 13, 14, 15] rfl (by decide) rfl (by decide) (by decide) (by decide) (fun _ => rfl) rfl rfl rfl rfl hl.1 rfl (Nat.le_of_ble_eq_true rfl) dX1_keepAllowed_81 ⟨Nat.zero_le _, Nat.zero_le _⟩ (fun r81 u81 H locs q81 hP hD hS => ?_)
        try dsimp only at q81
        have hP : va_P D vwCl (WX cI ad f u81.1 u81.2 T Dv C) H := hP
        have hD : va_D A (WX cI ad f u81.1 u81.2 T Dv C) := hD
        exact c_rz (u81.1, u81.2) hx hb hr hlocks hK hP hD hS dX1_keepAllowed_84 (by rcases q81.2.2 with ⟨z, -⟩ | ⟨z, -⟩ <;> omega) (by
                obtain ⟨t1, t2, t3⟩ := q81
                have hqq : q = Cn := by omega
                subst hqq
                refine ⟨?_, fun j hj => ⟨(t2 j hj).1.trans (hfr j hj).1, (t2 j hj).2.trans (hfr j hj).2⟩⟩
                rcases t3 with ⟨z1, z2⟩ | ⟨z1, z2⟩
                · exact Or.inl ⟨z1, tg_tgt t1 z2, fun a b => (tg_same t1 a b).trans (hin a b)⟩
                · exact Or.inr ⟨z1, fun a b h => z2 (in_ok ((tg_same t1 a b).mpr ((hin a b).mpr h)))⟩)
      · skip
        refine lv_aload_n hx hb dX1_keepAllowed_34 rfl (lv_at hl 0 rfl) ?_
        refine va_get (D := D) (ci := 1) (v := .ref (ad 9)) (C := RX1) (T := TX1) (N := 16) hx hb hts inX1 hown hK hP 0 rfl rfl 8 (by decide) fl34 (fun _ h9 => h9) rfl dX1_keepAllowed_35 ?_
        refine lv_iload_n hx hb dX1_keepAllowed_38 rfl (lv_at hl 2 rfl) ?_
        refine c_iald hx hb hK hP 9 0 rfl rfl (q) (by omega) (by omega) dX1_keepAllowed_39 (fun v39 e39 => ?_)
        have i39 : v39.toInt = ((f 8) (q)).toInt := by rw [e39]
        refine lv_iload_n hx hb dX1_keepAllowed_40 rfl (lv_at hl 1 rfl) ?_
        refine c_icmp_ne (tgt := 70) hx hb dX1_keepAllowed_41 (by decide) (fun c41 => ?_) (fun c41 => ?_)
        · skip
          refine c_iinc (k := 2) hx hb (fun v70 => [(2, .int v70), (0, .ref (ad 0)), (1, .int p1)]) dX1_keepAllowed_70 hl rfl (by decide) (by omega) (by decide) (fun _ => rfl) (fun v70 ls i70 hl => ?_)
          have hl : lv_has ls 3 [(2, .int v70), (0, .ref (ad 0)), (1, .int p1)] := hl
          refine lv_goto (tgt := 26) hx hb dX1_keepAllowed_73 (by decide) ?_
          exact ih26 (q + 1) v70 lo1 hi1 _ _ _ (by omega) (by omega) (by omega) (fun a b => by
                        rw [hin a b]
                        constructor
                        · rintro ⟨h1, h2⟩; exact ⟨h1, h2, fun h => absurd h (by omega)⟩
                        · rintro ⟨h1, h2, h3⟩; exact ⟨h1, h2⟩) hb1 hfr hP hD hS (lv_sub hl [1, 2, 0] rfl)
        · skip
          have n1 := hIc q (by omega)
          refine lv_aload_n hx hb dX1_keepAllowed_44 rfl (lv_at hl 0 rfl) ?_
          refine va_get (D := D) (ci := 1) (v := .ref (ad 13)) (C := RX1) (T := TX1) (N := 16) hx hb hts inX1 hown hK hP 0 rfl rfl 12 (by decide) fl49 (fun _ h9 => h9) rfl dX1_keepAllowed_45 ?_
          refine lv_iload_n hx hb dX1_keepAllowed_48 rfl (lv_at hl 1 rfl) ?_
          refine lv_aload_n hx hb dX1_keepAllowed_49 rfl (lv_at hl 0 rfl) ?_
          refine va_get (D := D) (ci := 1) (v := .ref (ad 10)) (C := RX1) (T := TX1) (N := 16) hx hb hts inX1 hown hK hP 0 rfl rfl 9 (by decide) fl37 (fun _ h9 => h9) rfl dX1_keepAllowed_50 ?_
          refine lv_iload_n hx hb dX1_keepAllowed_53 rfl (lv_at hl 2 rfl) ?_
          refine c_iald hx hb hK hP 10 0 rfl rfl (q) (by omega) (by omega) dX1_keepAllowed_54 (fun v54 e54 => ?_)
          have i54 : v54.toInt = ((f 9) (q)).toInt := by rw [e54]
          skip
          refine lv_aload_n hx hb dX1_keepAllowed_55 rfl (lv_at hl 0 rfl) ?_
          refine va_get (D := D) (ci := 1) (v := .ref (ad 11)) (C := RX1) (T := TX1) (N := 16) hx hb hts inX1 hown hK hP 0 rfl rfl 10 (by decide) fl40 (fun _ h9 => h9) rfl dX1_keepAllowed_56 ?_
          refine lv_iload_n hx hb dX1_keepAllowed_59 rfl (lv_at hl 2 rfl) ?_
          refine c_iald hx hb hK hP 11 0 rfl rfl (q) (by omega) (by omega) dX1_keepAllowed_60 (fun v60 e60 => ?_)
          have i60 : v60.toInt = ((f 10) (q)).toInt := by rw [e60]
          refine lv_aload_n hx hb dX1_keepAllowed_61 rfl (lv_at hl 0 rfl) ?_
          refine va_get (D := D) (ci := 1) (v := .ref (ad 12)) (C := RX1) (T := TX1) (N := 16) hx hb hts inX1 hown hK hP 0 rfl rfl 11 (by decide) fl43 (fun _ h9 => h9) rfl dX1_keepAllowed_62 ?_
          refine lv_iload_n hx hb dX1_keepAllowed_65 rfl (lv_at hl 2 rfl) ?_
          refine c_iald hx hb hK hP 12 0 rfl rfl (q) (by omega) (by omega) dX1_keepAllowed_66 (fun v66 e66 => ?_)
          have i66 : v66.toInt = ((f 11) (q)).toInt := by rw [e66]
          refine c_cvv (As := [.int p1, .int v54, .int v60, .int v66]) (ci := 0) (q0 := 0) (wr := [((ad 0), .inr (1, [.ref (ad 1), .ref (ad 2), .ref (ad 3), .ref (ad 4), .ref (ad 5), .ref (ad 6), .ref (ad 7), .ref (ad 8), .ref (ad 9), .ref (ad 10), .ref (ad 11), .ref (ad 12), .ref (ad 13), .int T, .int Dv, .int C])), ((ad 1), .inl (cI, 6, .inl (f 0))), ((ad 2), .inl (cI, 6, .inl (f 1))), ((ad 3), .inl (cI, 6, .inl (f 2))), ((ad 4), .inl (cI, 6, .inl (f 3))), ((ad 5), .inl (cI, 360, .inl (f 4))), ((ad 6), .inl (cI, 360, .inl (f 5))), ((ad 7), .inl (cI, 2, .inl (f 6))), ((ad 8), .inl (cI, 2, .inl (f 7))), ((ad 9), .inl (cI, 20, .inl (f 8))), ((ad 10), .inl (cI, 20, .inl (f 9))), ((ad 11), .inl (cI, 20, .inl (f 10))), ((ad 12), .inl (cI, 20, .inl (f 11)))]) (wF := (fun uZ => (WX cI ad f (upd lo1 (3 * (t) + ((f 9 q).toInt.toNat)) uZ.1) (upd hi1 (3 * (t) + ((f 9 q).toInt.toNat)) uZ.2) T Dv C))) (kX0_cut l D cI ad lo1 hi1 p1 v54 v60 v66 (t) ((f 9 q).toInt.toNat) (by omega) (by omega) (by omega) (by omega)) ⟨hx, hb, hml, hown, hts⟩ (cwV 4 hts gX1_keepAllowed_X0_cut rfl rfl rfl (by decide +kernel) ⟨Nat.le_of_ble_eq_true rfl, Nat.le_of_ble_eq_true rfl⟩) hK hP hD hS hA [13, 14, 15] [0, 1, 2, 3, 4, 5, 6, 7, 8, 9, 10, 11, 12] [0, 1, 2, 3, 4, 5, 6, 7, 8, 9, 10, 11, 12, 13, 14, 15] rfl (by decide) rfl (by decide) (by decide) (by decide) (fun _ => rfl) rfl rfl rfl rfl hl.1 rfl (Nat.le_of_ble_eq_true rfl) dX1_keepAllowed_67 ⟨Nat.zero_le _, Nat.zero_le _⟩ (fun u67 H locs q67 hP hD hS => ?_)
          try dsimp only at q67
          have hP : va_P D vwCl (WX cI ad f (upd lo1 (3 * (t) + ((f 9 q).toInt.toNat)) u67.1) (upd hi1 (3 * (t) + ((f 9 q).toInt.toNat)) u67.2) T Dv C) H := hP
          have hD : va_D A (WX cI ad f (upd lo1 (3 * (t) + ((f 9 q).toInt.toNat)) u67.1) (upd hi1 (3 * (t) + ((f 9 q).toInt.toNat)) u67.2) T Dv C) := hD
          refine c_iinc (k := 2) hx hb (fun v70_2 => [(2, .int v70_2), (0, .ref (ad 0)), (1, .int p1)]) dX1_keepAllowed_70 hl rfl (by decide) (by omega) (by decide) (fun _ => rfl) (fun v70_2 ls i70_2 hl => ?_)
          have hl : lv_has ls 3 [(2, .int v70_2), (0, .ref (ad 0)), (1, .int p1)] := hl
          refine lv_goto (tgt := 26) hx hb dX1_keepAllowed_73 (by decide) ?_
          exact ih26 (q + 1) v70_2 (upd lo1 (3 * (t) + ((f 9 q).toInt.toNat)) u67.1) (upd hi1 (3 * (t) + ((f 9 q).toInt.toNat)) u67.2) _ _ _ (by omega) (by omega) (by omega) (fun a b => by
                        rw [cut_in (l := v60.toInt) (h := v66.toInt) (by omega) q67.1 q67.2 a b, hin a b]
                        have hc : (((f 9 q).toInt.toNat = 0 ∧ v60.toInt ≤ a ∧ a ≤ v66.toInt) ∨ ((f 9 q).toInt.toNat = 1 ∧ v60.toInt ≤ b ∧ b ≤ v66.toInt) ∨ ((f 9 q).toInt.toNat = 2 ∧ v60.toInt ≤ a + b ∧ a + b ≤ v66.toInt)) ↔ chk f q a b := by unfold chk; omega
                        rw [hc]
                        constructor
                        · rintro ⟨⟨h1, h2⟩, h3⟩; exact ⟨h1, h2, fun _ => h3⟩
                        · rintro ⟨h1, h2, h3⟩; exact ⟨⟨h1, h2⟩, h3 (by omega)⟩) (cut_bd (l := v60.toInt) (h := v66.toInt) (by omega) q67.1 q67.2 hb1 (by omega) (by omega)) (fun j hj => ⟨(pk_un (by omega)).trans (hfr j hj).1, (pk_un (by omega)).trans (hfr j hj).2⟩) hP hD hS (lv_sub hl [1, 2, 0] rfl)
  exact HL26 (Cn + 1) 0 v24 (upd (upd lo (3 * (t) + (0)) u9.1) (3 * (t) + (1)) u21.1) (upd (upd hi (3 * (t) + (0)) u9.2) (3 * (t) + (1)) u21.2) _ _ _ (by omega) (by omega) (by omega) hin0 B1 hfr0 hP hD hS (lv_sub hl [1, 2, 0] rfl)
set_option maxHeartbeats 4000000 in
set_option maxRecDepth 100000 in
theorem kX1_lookAhead (l : Launch) (D : va_G) (cI : ClassId) (ad : Nat → Nat) (f : Nat → Nat → Int32) (lo : Nat → Int32) (hi : Nat → Int32) (T : Int32) (Dv : Int32) (C : Int32) (Tn : Nat) (Dn : Nat) (Cn : Nat) (p1 : Int32) (hT : T.toInt = (Tn : Int)) (hDv : Dv.toInt = (Dn : Int)) (hC : C.toInt = (Cn : Int)) (hI : Inv f Tn Dn Cn) (hm : 0 ≤ p1.toInt ∧ p1.toInt ≤ 5) : MI l yX1_lookAhead wsX1_lookAhead ({ frames := 5, cells := 0, slots := 0, locals := 114 } : Room) D [(cI, .int)] [.ref (ad 0), .int p1] (WX cI ad f lo hi T Dv C) (fun u : (Nat → Int32) × (Nat → Int32) => (WX cI ad f u.1 u.2 T Dv C)) (fun (r : Int32) (u : (Nat → Int32) × (Nat → Int32)) => LA f Tn Dn Cn p1.toInt r.toInt (fun j => rwX u.1 u.2 j)) := by
  refine c_ent (cc := cX1_lookAhead) (maxL := 3) (ret := (some .int)) (Qc := fun A => va_Qi (fun (r : Int32) (u : (Nat → Int32) × (Nat → Int32)) => LA f Tn Dn Cn p1.toInt r.toInt (fun j => rwX u.1 u.2 j)) (cB D [(cI, .int)] A (fun u : (Nat → Int32) × (Nat → Int32) => (WX cI ad f u.1 u.2 T Dv C))) A) (by decide) rfl (Nat.le_of_ble_eq_true rfl) ?_
  intro p e s m below meth c A ls hx hb hr hlocks hts hown hml hK hP hD hA hl
  have hS : va_S A s.heap s.heap [] := va_S.rf
  have hl : lv_has ls 3 [(0, .ref (ad 0)), (1, .int p1)] := hl
  have hP : va_P D vwCl (WX cI ad f lo hi T Dv C) s.heap := hP
  have fl28 := hts (.fieldLink RX1 28 "DoorBench" "startLow" "[I") (by decide +kernel)
  have fl31 := hts (.fieldLink RX1 31 "DoorBench" "startHigh" "[I") (by decide +kernel)
  have fl49 := hts (.fieldLink RX1 49 "DoorBench" "spans" "LDoorBench$Spans;") (by decide +kernel)
  have fl141 := hts (.fieldLink RX1 141 "DoorBench" "ticks" "I") (by decide +kernel)
  have inX1 : ∀ w ∈ wsX10, w ∈ wsX1_lookAhead := by decide +kernel
  obtain ⟨hI0, hId, hIr, hIs, hIc⟩ := id hI
  have s0 := hIs 0 (by omega)
  have s1 := hIs 1 (by omega)
  refine lv_aload_n hx hb dX1_lookAhead_0 rfl (lv_at hl 0 rfl) ?_
  refine va_get (D := D) (ci := 1) (v := .ref (ad 13)) (C := RX1) (T := TX1) (N := 16) hx hb hts inX1 hown hK hP 0 rfl rfl 12 (by decide) fl49 (fun _ h9 => h9) rfl dX1_lookAhead_1 ?_
  refine c_iconst hx hb dX1_lookAhead_4 (by decide) (fun v4 i4 => ?_)
  refine c_iconst hx hb dX1_lookAhead_5 (by decide) (fun v5 i5 => ?_)
  refine lv_aload_n hx hb dX1_lookAhead_6 rfl (lv_at hl 0 rfl) ?_
  refine va_get (D := D) (ci := 1) (v := .ref (ad 7)) (C := RX1) (T := TX1) (N := 16) hx hb hts inX1 hown hK hP 0 rfl rfl 6 (by decide) fl28 (fun _ h9 => h9) rfl dX1_lookAhead_7 ?_
  refine c_iconst hx hb dX1_lookAhead_10 (by decide) (fun v10 i10 => ?_)
  refine c_iald hx hb hK hP 7 0 rfl rfl (0) (by omega) (by omega) dX1_lookAhead_11 (fun v11 e11 => ?_)
  have i11 : v11.toInt = ((f 6) (0)).toInt := by rw [e11]
  refine lv_aload_n hx hb dX1_lookAhead_12 rfl (lv_at hl 0 rfl) ?_
  refine va_get (D := D) (ci := 1) (v := .ref (ad 8)) (C := RX1) (T := TX1) (N := 16) hx hb hts inX1 hown hK hP 0 rfl rfl 7 (by decide) fl31 (fun _ h9 => h9) rfl dX1_lookAhead_13 ?_
  refine c_iconst hx hb dX1_lookAhead_16 (by decide) (fun v16 i16 => ?_)
  refine c_iald hx hb hK hP 8 0 rfl rfl (0) (by omega) (by omega) dX1_lookAhead_17 (fun v17 e17 => ?_)
  have i17 : v17.toInt = ((f 7) (0)).toInt := by rw [e17]
  refine c_cvv (As := [.int v4, .int v5, .int v11, .int v17]) (ci := 0) (q0 := 0) (wr := [((ad 0), .inr (1, [.ref (ad 1), .ref (ad 2), .ref (ad 3), .ref (ad 4), .ref (ad 5), .ref (ad 6), .ref (ad 7), .ref (ad 8), .ref (ad 9), .ref (ad 10), .ref (ad 11), .ref (ad 12), .ref (ad 13), .int T, .int Dv, .int C])), ((ad 1), .inl (cI, 6, .inl (f 0))), ((ad 2), .inl (cI, 6, .inl (f 1))), ((ad 3), .inl (cI, 6, .inl (f 2))), ((ad 4), .inl (cI, 6, .inl (f 3))), ((ad 5), .inl (cI, 360, .inl (f 4))), ((ad 6), .inl (cI, 360, .inl (f 5))), ((ad 7), .inl (cI, 2, .inl (f 6))), ((ad 8), .inl (cI, 2, .inl (f 7))), ((ad 9), .inl (cI, 20, .inl (f 8))), ((ad 10), .inl (cI, 20, .inl (f 9))), ((ad 11), .inl (cI, 20, .inl (f 10))), ((ad 12), .inl (cI, 20, .inl (f 11)))]) (wF := (fun uZ => (WX cI ad f (upd lo (3 * (0) + (0)) v11) (upd hi (3 * (0) + (0)) v17) T Dv C))) (kX0_put l D cI ad lo hi v4 v5 v11 v17 (0) (0) (by omega) (by omega) (by omega) (by omega)) ⟨hx, hb, hml, hown, hts⟩ (cwV 4 hts gX1_lookAhead_X0_put rfl rfl rfl (by decide +kernel) ⟨Nat.le_of_ble_eq_true rfl, Nat.le_of_ble_eq_true rfl⟩) hK hP hD hS hA [13, 14, 15] [0, 1, 2, 3, 4, 5, 6, 7, 8, 9, 10, 11, 12] [0, 1, 2, 3, 4, 5, 6, 7, 8, 9, 10, 11, 12, 13, 14, 15] rfl (by decide) rfl (by decide) (by decide) (by decide) (fun _ => rfl) rfl rfl rfl rfl hl.1 rfl (Nat.le_of_ble_eq_true rfl) dX1_lookAhead_18 ⟨Nat.zero_le _, Nat.zero_le _⟩ (fun u18 H locs q18 hP hD hS => ?_)
  try dsimp only at q18
  have hP : va_P D vwCl (WX cI ad f (upd lo (3 * (0) + (0)) v11) (upd hi (3 * (0) + (0)) v17) T Dv C) H := hP
  have hD : va_D A (WX cI ad f (upd lo (3 * (0) + (0)) v11) (upd hi (3 * (0) + (0)) v17) T Dv C) := hD
  refine lv_aload_n hx hb dX1_lookAhead_21 rfl (lv_at hl 0 rfl) ?_
  refine va_get (D := D) (ci := 1) (v := .ref (ad 13)) (C := RX1) (T := TX1) (N := 16) hx hb hts inX1 hown hK hP 0 rfl rfl 12 (by decide) fl49 (fun _ h9 => h9) rfl dX1_lookAhead_22 ?_
  refine c_iconst hx hb dX1_lookAhead_25 (by decide) (fun v25 i25 => ?_)
  refine c_iconst hx hb dX1_lookAhead_26 (by decide) (fun v26 i26 => ?_)
  refine lv_aload_n hx hb dX1_lookAhead_27 rfl (lv_at hl 0 rfl) ?_
  refine va_get (D := D) (ci := 1) (v := .ref (ad 7)) (C := RX1) (T := TX1) (N := 16) hx hb hts inX1 hown hK hP 0 rfl rfl 6 (by decide) fl28 (fun _ h9 => h9) rfl dX1_lookAhead_28 ?_
  refine c_iconst hx hb dX1_lookAhead_31 (by decide) (fun v31 i31 => ?_)
  refine c_iald hx hb hK hP 7 0 rfl rfl (1) (by omega) (by omega) dX1_lookAhead_32 (fun v32 e32 => ?_)
  have i32 : v32.toInt = ((f 6) (1)).toInt := by rw [e32]
  refine lv_aload_n hx hb dX1_lookAhead_33 rfl (lv_at hl 0 rfl) ?_
  refine va_get (D := D) (ci := 1) (v := .ref (ad 8)) (C := RX1) (T := TX1) (N := 16) hx hb hts inX1 hown hK hP 0 rfl rfl 7 (by decide) fl31 (fun _ h9 => h9) rfl dX1_lookAhead_34 ?_
  refine c_iconst hx hb dX1_lookAhead_37 (by decide) (fun v37 i37 => ?_)
  refine c_iald hx hb hK hP 8 0 rfl rfl (1) (by omega) (by omega) dX1_lookAhead_38 (fun v38 e38 => ?_)
  have i38 : v38.toInt = ((f 7) (1)).toInt := by rw [e38]
  refine c_cvv (As := [.int v25, .int v26, .int v32, .int v38]) (ci := 0) (q0 := 0) (wr := [((ad 0), .inr (1, [.ref (ad 1), .ref (ad 2), .ref (ad 3), .ref (ad 4), .ref (ad 5), .ref (ad 6), .ref (ad 7), .ref (ad 8), .ref (ad 9), .ref (ad 10), .ref (ad 11), .ref (ad 12), .ref (ad 13), .int T, .int Dv, .int C])), ((ad 1), .inl (cI, 6, .inl (f 0))), ((ad 2), .inl (cI, 6, .inl (f 1))), ((ad 3), .inl (cI, 6, .inl (f 2))), ((ad 4), .inl (cI, 6, .inl (f 3))), ((ad 5), .inl (cI, 360, .inl (f 4))), ((ad 6), .inl (cI, 360, .inl (f 5))), ((ad 7), .inl (cI, 2, .inl (f 6))), ((ad 8), .inl (cI, 2, .inl (f 7))), ((ad 9), .inl (cI, 20, .inl (f 8))), ((ad 10), .inl (cI, 20, .inl (f 9))), ((ad 11), .inl (cI, 20, .inl (f 10))), ((ad 12), .inl (cI, 20, .inl (f 11)))]) (wF := (fun uZ => (WX cI ad f (upd (upd lo (3 * (0) + (0)) v11) (3 * (0) + (1)) v32) (upd (upd hi (3 * (0) + (0)) v17) (3 * (0) + (1)) v38) T Dv C))) (kX0_put l D cI ad (upd lo (3 * (0) + (0)) v11) (upd hi (3 * (0) + (0)) v17) v25 v26 v32 v38 (0) (1) (by omega) (by omega) (by omega) (by omega)) ⟨hx, hb, hml, hown, hts⟩ (cwV 4 hts gX1_lookAhead_X0_put rfl rfl rfl (by decide +kernel) ⟨Nat.le_of_ble_eq_true rfl, Nat.le_of_ble_eq_true rfl⟩) hK hP hD hS hA [13, 14, 15] [0, 1, 2, 3, 4, 5, 6, 7, 8, 9, 10, 11, 12] [0, 1, 2, 3, 4, 5, 6, 7, 8, 9, 10, 11, 12, 13, 14, 15] rfl (by decide) rfl (by decide) (by decide) (by decide) (fun _ => rfl) rfl rfl rfl rfl hl.1 rfl (Nat.le_of_ble_eq_true rfl) dX1_lookAhead_39 ⟨Nat.zero_le _, Nat.zero_le _⟩ (fun u39 H locs q39 hP hD hS => ?_)
  try dsimp only at q39
  have hP : va_P D vwCl (WX cI ad f (upd (upd lo (3 * (0) + (0)) v11) (3 * (0) + (1)) v32) (upd (upd hi (3 * (0) + (0)) v17) (3 * (0) + (1)) v38) T Dv C) H := hP
  have hD : va_D A (WX cI ad f (upd (upd lo (3 * (0) + (0)) v11) (3 * (0) + (1)) v32) (upd (upd hi (3 * (0) + (0)) v17) (3 * (0) + (1)) v38) T Dv C) := hD
  refine lv_aload_n hx hb dX1_lookAhead_42 rfl (lv_at hl 0 rfl) ?_
  refine va_get (D := D) (ci := 1) (v := .ref (ad 13)) (C := RX1) (T := TX1) (N := 16) hx hb hts inX1 hown hK hP 0 rfl rfl 12 (by decide) fl49 (fun _ h9 => h9) rfl dX1_lookAhead_43 ?_
  refine c_iconst hx hb dX1_lookAhead_46 (by decide) (fun v46 i46 => ?_)
  refine c_iconst hx hb dX1_lookAhead_47 (by decide) (fun v47 i47 => ?_)
  refine lv_aload_n hx hb dX1_lookAhead_48 rfl (lv_at hl 0 rfl) ?_
  refine va_get (D := D) (ci := 1) (v := .ref (ad 7)) (C := RX1) (T := TX1) (N := 16) hx hb hts inX1 hown hK hP 0 rfl rfl 6 (by decide) fl28 (fun _ h9 => h9) rfl dX1_lookAhead_49 ?_
  refine c_iconst hx hb dX1_lookAhead_52 (by decide) (fun v52 i52 => ?_)
  refine c_iald hx hb hK hP 7 0 rfl rfl (0) (by omega) (by omega) dX1_lookAhead_53 (fun v53 e53 => ?_)
  have i53 : v53.toInt = ((f 6) (0)).toInt := by rw [e53]
  refine lv_aload_n hx hb dX1_lookAhead_54 rfl (lv_at hl 0 rfl) ?_
  refine va_get (D := D) (ci := 1) (v := .ref (ad 7)) (C := RX1) (T := TX1) (N := 16) hx hb hts inX1 hown hK hP 0 rfl rfl 6 (by decide) fl28 (fun _ h9 => h9) rfl dX1_lookAhead_55 ?_
  refine c_iconst hx hb dX1_lookAhead_58 (by decide) (fun v58 i58 => ?_)
  refine c_iald hx hb hK hP 7 0 rfl rfl (1) (by omega) (by omega) dX1_lookAhead_59 (fun v59 e59 => ?_)
  have i59 : v59.toInt = ((f 6) (1)).toInt := by rw [e59]
  refine c_iadd hx hb dX1_lookAhead_60 (by omega) (fun v60 i60 => ?_)
  refine lv_aload_n hx hb dX1_lookAhead_61 rfl (lv_at hl 0 rfl) ?_
  refine va_get (D := D) (ci := 1) (v := .ref (ad 8)) (C := RX1) (T := TX1) (N := 16) hx hb hts inX1 hown hK hP 0 rfl rfl 7 (by decide) fl31 (fun _ h9 => h9) rfl dX1_lookAhead_62 ?_
  refine c_iconst hx hb dX1_lookAhead_65 (by decide) (fun v65 i65 => ?_)
  refine c_iald hx hb hK hP 8 0 rfl rfl (0) (by omega) (by omega) dX1_lookAhead_66 (fun v66 e66 => ?_)
  have i66 : v66.toInt = ((f 7) (0)).toInt := by rw [e66]
  refine lv_aload_n hx hb dX1_lookAhead_67 rfl (lv_at hl 0 rfl) ?_
  refine va_get (D := D) (ci := 1) (v := .ref (ad 8)) (C := RX1) (T := TX1) (N := 16) hx hb hts inX1 hown hK hP 0 rfl rfl 7 (by decide) fl31 (fun _ h9 => h9) rfl dX1_lookAhead_68 ?_
  refine c_iconst hx hb dX1_lookAhead_71 (by decide) (fun v71 i71 => ?_)
  refine c_iald hx hb hK hP 8 0 rfl rfl (1) (by omega) (by omega) dX1_lookAhead_72 (fun v72 e72 => ?_)
  have i72 : v72.toInt = ((f 7) (1)).toInt := by rw [e72]
  refine c_iadd hx hb dX1_lookAhead_73 (by omega) (fun v73 i73 => ?_)
  refine c_cvv (As := [.int v46, .int v47, .int v60, .int v73]) (ci := 0) (q0 := 0) (wr := [((ad 0), .inr (1, [.ref (ad 1), .ref (ad 2), .ref (ad 3), .ref (ad 4), .ref (ad 5), .ref (ad 6), .ref (ad 7), .ref (ad 8), .ref (ad 9), .ref (ad 10), .ref (ad 11), .ref (ad 12), .ref (ad 13), .int T, .int Dv, .int C])), ((ad 1), .inl (cI, 6, .inl (f 0))), ((ad 2), .inl (cI, 6, .inl (f 1))), ((ad 3), .inl (cI, 6, .inl (f 2))), ((ad 4), .inl (cI, 6, .inl (f 3))), ((ad 5), .inl (cI, 360, .inl (f 4))), ((ad 6), .inl (cI, 360, .inl (f 5))), ((ad 7), .inl (cI, 2, .inl (f 6))), ((ad 8), .inl (cI, 2, .inl (f 7))), ((ad 9), .inl (cI, 20, .inl (f 8))), ((ad 10), .inl (cI, 20, .inl (f 9))), ((ad 11), .inl (cI, 20, .inl (f 10))), ((ad 12), .inl (cI, 20, .inl (f 11)))]) (wF := (fun uZ => (WX cI ad f (upd (upd (upd lo (3 * (0) + (0)) v11) (3 * (0) + (1)) v32) (3 * (0) + (2)) v60) (upd (upd (upd hi (3 * (0) + (0)) v17) (3 * (0) + (1)) v38) (3 * (0) + (2)) v73) T Dv C))) (kX0_put l D cI ad (upd (upd lo (3 * (0) + (0)) v11) (3 * (0) + (1)) v32) (upd (upd hi (3 * (0) + (0)) v17) (3 * (0) + (1)) v38) v46 v47 v60 v73 (0) (2) (by omega) (by omega) (by omega) (by omega)) ⟨hx, hb, hml, hown, hts⟩ (cwV 4 hts gX1_lookAhead_X0_put rfl rfl rfl (by decide +kernel) ⟨Nat.le_of_ble_eq_true rfl, Nat.le_of_ble_eq_true rfl⟩) hK hP hD hS hA [13, 14, 15] [0, 1, 2, 3, 4, 5, 6, 7, 8, 9, 10, 11, 12] [0, 1, 2, 3, 4, 5, 6, 7, 8, 9, 10, 11, 12, 13, 14, 15] rfl (by decide) rfl (by decide) (by decide) (by decide) (fun _ => rfl) rfl rfl rfl rfl hl.1 rfl (Nat.le_of_ble_eq_true rfl) dX1_lookAhead_74 ⟨Nat.zero_le _, Nat.zero_le _⟩ (fun u74 H locs q74 hP hD hS => ?_)
  try dsimp only at q74
  have hP : va_P D vwCl (WX cI ad f (upd (upd (upd lo (3 * (0) + (0)) v11) (3 * (0) + (1)) v32) (3 * (0) + (2)) v60) (upd (upd (upd hi (3 * (0) + (0)) v17) (3 * (0) + (1)) v38) (3 * (0) + (2)) v73) T Dv C) H := hP
  have hD : va_D A (WX cI ad f (upd (upd (upd lo (3 * (0) + (0)) v11) (3 * (0) + (1)) v32) (3 * (0) + (2)) v60) (upd (upd (upd hi (3 * (0) + (0)) v17) (3 * (0) + (1)) v38) (3 * (0) + (2)) v73) T Dv C) := hD
  have U1 := up3 lo 0 v11 v32 v60
  have U2 := up3 hi 0 v17 v38 v73
  obtain ⟨lo0, elo⟩ : ∃ z, z = (upd (upd (upd lo (3 * (0) + (0)) v11) (3 * (0) + (1)) v32) (3 * (0) + (2)) v60) := ⟨_, rfl⟩
  obtain ⟨hi0, ehi⟩ : ∃ z, z = (upd (upd (upd hi (3 * (0) + (0)) v17) (3 * (0) + (1)) v38) (3 * (0) + (2)) v73) := ⟨_, rfl⟩
  rw [← elo, ← ehi] at hP hD
  rw [← elo] at U1
  rw [← ehi] at U2
  have hst : isSt f (rwX lo0 hi0 0) := by
    refine ⟨?_, ?_, ?_, ?_, ?_, ?_⟩
    · show (lo0 (3 * 0 + 0)).toInt = _; rw [U1.1.1, i11]
    · show (hi0 (3 * 0 + 0)).toInt = _; rw [U2.1.1, i17]
    · show (lo0 (3 * 0 + 1)).toInt = _; rw [U1.1.2.1, i32]
    · show (hi0 (3 * 0 + 1)).toInt = _; rw [U2.1.2.1, i38]
    · show (lo0 (3 * 0 + 2)).toInt = _; rw [U1.1.2.2, i60, i53, i59]
    · show (hi0 (3 * 0 + 2)).toInt = _; rw [U2.1.2.2, i73, i66, i72]
  refine c_iconst hx hb dX1_lookAhead_77 (by decide) (fun v77 i77 => ?_)
  refine lv_istore_n (lv' := [(2, .int v77), (0, .ref (ad 0)), (1, .int p1)]) hx hb dX1_lookAhead_78 rfl hl (by decide) rfl (fun ls hl => ?_)
  have HL79 : ∀ (n : Nat) (t : Nat) (x2 : Int32) (lo1 : Nat → Int32) (hi1 : Nat → Int32) (H : Heap) (locs : List Loc) (ls : Array Slot), (x2.toInt = (t : Int)) → (t ≤ Tn + 1) → (Tn + 2 ≤ t + n) → (t = 0 → isSt f (rwX lo1 hi1 0)) → (∀ j, j < t → Tt (rwX lo1 hi1 j) (Fw f Dn Cn p1.toInt j) ∧ bh (rwX lo1 hi1 j) (20000 + 360 * j)) → va_P D vwCl (WX cI ad f lo1 hi1 T Dv C) H → va_D A (WX cI ad f lo1 hi1 T Dv C) → va_S A s.heap H locs → lv_has ls 3 [(0, .ref (ad 0)), (1, .int p1), (2, .int x2)] → W p l e ({ frames := 5, cells := 0, slots := 0, locals := 114 } : Room) s m [.ref (ad 0), .int p1].toArray below meth c H locs 0 0 (MQ below (va_Qi (fun (r : Int32) (u : (Nat → Int32) × (Nat → Int32)) => LA f Tn Dn Cn p1.toInt r.toInt (fun j => rwX u.1 u.2 j)) (cB D [(cI, .int)] A (fun u : (Nat → Int32) × (Nat → Int32) => (WX cI ad f u.1 u.2 T Dv C))) A) [.ref (ad 0), .int p1].toArray s 0 0 A) (F0 m 79 ls []) := by
    intro n
    induction n with
    | zero => intro t x2 lo1 hi1 H locs ls hx2 ht hms hst1 hrows; exact absurd hms (by omega)
    | succ n ih79 =>
      intro t x2 lo1 hi1 H locs ls hx2 ht hms hst1 hrows hP hD hS hl
      refine lv_iload_n hx hb dX1_lookAhead_79 rfl (lv_at hl 2 rfl) ?_
      refine lv_aload_n hx hb dX1_lookAhead_80 rfl (lv_at hl 0 rfl) ?_
      refine va_get (D := D) (ci := 1) (v := .int T) (C := RX1) (T := TX1) (N := 16) hx hb hts inX1 hown hK hP 0 rfl rfl 13 (by decide) fl141 (fun _ h9 => h9) rfl dX1_lookAhead_81 ?_
      refine c_icmp_gt (tgt := 129) hx hb dX1_lookAhead_84 (by decide) (fun c84 => ?_) (fun c84 => ?_)
      · skip
        refine c_iconst hx hb dX1_lookAhead_129 (by decide) (fun v129 i129 => ?_)
        exact c_ri (lo1, hi1) hx hb hr hlocks hK hP hD hS dX1_lookAhead_130 (by
                have htt : t = Tn + 1 := by omega
                refine Or.inl ⟨i129, fun j hj => ?_⟩
                obtain ⟨w1, w2⟩ := hrows j (by omega)
                exact ⟨w1, bh_le w2 (by omega)⟩)
      · skip
        refine lv_iload_n hx hb dX1_lookAhead_87 rfl (lv_at hl 2 rfl) ?_
        refine c_if_le (tgt := 113) hx hb dX1_lookAhead_88 (by decide) (fun c88 => ?_) (fun c88 => ?_)
        · skip
          have ht0 : t = 0 := by omega
          subst ht0
          have hs0 := hst1 rfl
          have hbz : bd (rwX lo1 hi1 0) 1000000 := by
            have w0 := hIs 0 (by omega); have w1 := hIs 1 (by omega)
            unfold isSt at hs0; unfold bd; omega
          have hstep := Fw_0 (Dn := Dn) (Cn := Cn) (mr := p1.toInt) hs0
          refine lv_aload_n hx hb dX1_lookAhead_113 rfl (lv_at hl 0 rfl) ?_
          refine lv_iload_n hx hb dX1_lookAhead_114 rfl (lv_at hl 2 rfl) ?_
          refine c_wvi (As := [.int x2]) (ci := 1) (q0 := 0) (kX1_keepAllowed l D cI ad f lo1 hi1 T Dv C Tn Dn Cn x2 0 hT hDv hC hI (by omega) (by omega) (by assumption)) ⟨hx, hb, hml, hown, hts⟩ (cwV 1 hts gX1_lookAhead_X1_keepAllowed rfl rfl rfl (by decide +kernel) ⟨Nat.le_of_ble_eq_true rfl, Nat.le_of_ble_eq_true rfl⟩) hK hP hD hS hA rfl rfl rfl rfl hl.1 rfl (Nat.le_of_ble_eq_true rfl) dX1_lookAhead_115 ⟨Nat.zero_le _, Nat.zero_le _⟩ (fun r115 u115 H locs q115 hP hD hS => ?_)
          try dsimp only at q115
          have hP : va_P D vwCl (WX cI ad f u115.1 u115.2 T Dv C) H := hP
          have hD : va_D A (WX cI ad f u115.1 u115.2 T Dv C) := hD
          refine c_if_ne (tgt := 123) hx hb dX1_lookAhead_118 (by decide) (fun c118 => ?_) (fun c118 => ?_)
          · skip
            refine c_iinc (k := 2) hx hb (fun v123 => [(2, .int v123), (0, .ref (ad 0)), (1, .int p1)]) dX1_lookAhead_123 hl rfl (by decide) (by omega) (by decide) (fun _ => rfl) (fun v123 ls i123 hl => ?_)
            have hl : lv_has ls 3 [(2, .int v123), (0, .ref (ad 0)), (1, .int p1)] := hl
            refine lv_goto (tgt := 79) hx hb dX1_lookAhead_126 (by decide) ?_
            exact ih79 (0 + 1) v123 u115.1 u115.2 _ _ _ (by omega) (by omega) (by omega) (fun h => absurd h (by omega)) (fun j hj => by
                              have hT : Tt (rwX u115.1 u115.2 (0)) (Fw f Dn Cn p1.toInt (0)) := by
                                rcases q115.1 with ⟨-, z⟩ | ⟨z, -⟩
                                · exact z.congr hstep
                                · omega
                              rcases (show j < 0 ∨ j = 0 by omega) with hj | rfl
                              · omega
                              · exact ⟨hT, (Tt_bh (r := rwX lo1 hi1 0) hT (fun a b h => ⟨((hstep a b).mpr h).1, alw_0 _ (Fw_alw h)⟩) (by have w0 := hIs 0 (by omega); have w1 := hIs 1 (by omega); unfold isSt at hs0; omega))⟩) hP hD hS (lv_sub hl [1, 2, 0] rfl)
          · skip
            refine lv_iload_n hx hb dX1_lookAhead_121 rfl (lv_at hl 2 rfl) ?_
            exact c_ri (u115.1, u115.2) hx hb hr hlocks hK hP hD hS dX1_lookAhead_122 (by
                    refine Or.inr ⟨0, by omega, by omega, fun a b h => ?_, fun j hj => ?_⟩
                    · rcases q115.1 with ⟨z, -⟩ | ⟨-, z⟩
                      · omega
                      · exact z a b ((hstep a b).mpr h)
                    · exact absurd hj (by omega))
        · skip
          obtain ⟨k, rfl⟩ : ∃ k, t = k + 1 := ⟨t - 1, by omega⟩
          obtain ⟨hTk, hbk⟩ := hrows k (by omega)
          have hcb := crow_bd (mr := p1.toInt) (but := -1) hI (show k < Tn by omega) hm.1 hm.2 Dn (Nat.le_refl _)
          refine lv_aload_n hx hb dX1_lookAhead_91 rfl (lv_at hl 0 rfl) ?_
          refine lv_iload_n hx hb dX1_lookAhead_92 rfl (lv_at hl 2 rfl) ?_
          refine c_iconst hx hb dX1_lookAhead_93 (by decide) (fun v93 i93 => ?_)
          refine c_isub hx hb dX1_lookAhead_94 (by omega) (fun v94 i94 => ?_)
          refine lv_iload_n hx hb dX1_lookAhead_95 rfl (lv_at hl 1 rfl) ?_
          refine c_iconst hx hb dX1_lookAhead_96 (by decide) (fun v96 i96 => ?_)
          refine c_wvv (As := [.int v94, .int p1, .int v96]) (ci := 1) (q0 := 0) (kX1_gatherChange l D cI ad f lo1 hi1 T Dv C Tn Dn Cn v94 p1 v96 (k) hT hDv hC hI (by omega) (by omega) (by omega)) ⟨hx, hb, hml, hown, hts⟩ (cwV 3 hts gX1_lookAhead_X1_gatherChange rfl rfl rfl (by decide +kernel) ⟨Nat.le_of_ble_eq_true rfl, Nat.le_of_ble_eq_true rfl⟩) hK hP hD hS hA rfl rfl rfl rfl hl.1 rfl (Nat.le_of_ble_eq_true rfl) dX1_lookAhead_97 ⟨Nat.zero_le _, Nat.zero_le _⟩ (fun u97 H locs q97 hP hD hS => ?_)
          try dsimp only at q97
          have hP : va_P D vwCl (WX cI ad f u97.1 u97.2 T Dv C) H := hP
          have hD : va_D A (WX cI ad f u97.1 u97.2 T Dv C) := hD
          rw [i96] at q97
          refine lv_aload_n hx hb dX1_lookAhead_100 rfl (lv_at hl 0 rfl) ?_
          refine va_get (D := D) (ci := 1) (v := .ref (ad 13)) (C := RX1) (T := TX1) (N := 16) hx hb hts inX1 hown hK hP 0 rfl rfl 12 (by decide) fl49 (fun _ h9 => h9) rfl dX1_lookAhead_101 ?_
          refine lv_iload_n hx hb dX1_lookAhead_104 rfl (lv_at hl 2 rfl) ?_
          refine lv_iload_n hx hb dX1_lookAhead_105 rfl (lv_at hl 2 rfl) ?_
          refine c_iconst hx hb dX1_lookAhead_106 (by decide) (fun v106 i106 => ?_)
          refine c_isub hx hb dX1_lookAhead_107 (by omega) (fun v107 i107 => ?_)
          refine c_bipush hx hb dX1_lookAhead_108 (by decide) (fun v108 i108 => ?_)
          refine c_cvv (As := [.int x2, .int v107, .int v108]) (ci := 0) (q0 := 0) (wr := [((ad 0), .inr (1, [.ref (ad 1), .ref (ad 2), .ref (ad 3), .ref (ad 4), .ref (ad 5), .ref (ad 6), .ref (ad 7), .ref (ad 8), .ref (ad 9), .ref (ad 10), .ref (ad 11), .ref (ad 12), .ref (ad 13), .int T, .int Dv, .int C])), ((ad 1), .inl (cI, 6, .inl (f 0))), ((ad 2), .inl (cI, 6, .inl (f 1))), ((ad 3), .inl (cI, 6, .inl (f 2))), ((ad 4), .inl (cI, 6, .inl (f 3))), ((ad 5), .inl (cI, 360, .inl (f 4))), ((ad 6), .inl (cI, 360, .inl (f 5))), ((ad 7), .inl (cI, 2, .inl (f 6))), ((ad 8), .inl (cI, 2, .inl (f 7))), ((ad 9), .inl (cI, 20, .inl (f 8))), ((ad 10), .inl (cI, 20, .inl (f 9))), ((ad 11), .inl (cI, 20, .inl (f 10))), ((ad 12), .inl (cI, 20, .inl (f 11)))]) (wF := (fun uZ => (WX cI ad f uZ.1 uZ.2 T Dv C))) (kX0_putSum l D cI ad u97.1 u97.2 x2 v107 v108 (k + 1) (k) (61) (by omega) (by omega) (by omega) (by omega) (by rw [show rwX u97.1 u97.2 k = rwX lo1 hi1 k from rw_keep (fun j h1 h2 => q97.2 j (by omega))]; exact bh_bd hbk (by omega)) (by have w1 := q97.1; have w2 := hcb.2; unfold eq6 at w1; unfold bd at *; omega)) ⟨hx, hb, hml, hown, hts⟩ (cwV 3 hts gX1_lookAhead_X0_putSum rfl rfl rfl (by decide +kernel) ⟨Nat.le_of_ble_eq_true rfl, Nat.le_of_ble_eq_true rfl⟩) hK hP hD hS hA [13, 14, 15] [0, 1, 2, 3, 4, 5, 6, 7, 8, 9, 10, 11, 12] [0, 1, 2, 3, 4, 5, 6, 7, 8, 9, 10, 11, 12, 13, 14, 15] rfl (by decide) rfl (by decide) (by decide) (by decide) (fun _ => rfl) rfl rfl rfl rfl hl.1 rfl (Nat.le_of_ble_eq_true rfl) dX1_lookAhead_110 ⟨Nat.zero_le _, Nat.zero_le _⟩ (fun u110 H locs q110 hP hD hS => ?_)
          try dsimp only at q110
          have hP : va_P D vwCl (WX cI ad f u110.1 u110.2 T Dv C) H := hP
          have hD : va_D A (WX cI ad f u110.1 u110.2 T Dv C) := hD
          have e97 : rwX u97.1 u97.2 k = rwX lo1 hi1 k := rw_keep (fun j h1 h2 => q97.2 j (by omega))
          have hz : sm6 (rwX u110.1 u110.2 (k + 1)) (rwX lo1 hi1 k) (rwX u97.1 u97.2 61) := by rw [← e97]; exact q110.1
          have hbz : bd (rwX u110.1 u110.2 (k + 1)) 1000000 := by
            have w1 := q97.1; have w2 := hcb.2
            unfold bh at hbk; unfold sm6 at hz; unfold eq6 at w1; unfold bd at *; omega
          have hstep := Fw_1 hI (show k < Tn by omega) hm.1 hm.2 hTk q97.1 hz
          refine lv_aload_n hx hb dX1_lookAhead_113 rfl (lv_at hl 0 rfl) ?_
          refine lv_iload_n hx hb dX1_lookAhead_114 rfl (lv_at hl 2 rfl) ?_
          refine c_wvi (As := [.int x2]) (ci := 1) (q0 := 0) (kX1_keepAllowed l D cI ad f u110.1 u110.2 T Dv C Tn Dn Cn x2 (k + 1) hT hDv hC hI (by omega) (by omega) (by assumption)) ⟨hx, hb, hml, hown, hts⟩ (cwV 1 hts gX1_lookAhead_X1_keepAllowed rfl rfl rfl (by decide +kernel) ⟨Nat.le_of_ble_eq_true rfl, Nat.le_of_ble_eq_true rfl⟩) hK hP hD hS hA rfl rfl rfl rfl hl.1 rfl (Nat.le_of_ble_eq_true rfl) dX1_lookAhead_115 ⟨Nat.zero_le _, Nat.zero_le _⟩ (fun r115_2 u115_2 H locs q115_2 hP hD hS => ?_)
          try dsimp only at q115_2
          have hP : va_P D vwCl (WX cI ad f u115_2.1 u115_2.2 T Dv C) H := hP
          have hD : va_D A (WX cI ad f u115_2.1 u115_2.2 T Dv C) := hD
          refine c_if_ne (tgt := 123) hx hb dX1_lookAhead_118 (by decide) (fun c118_2 => ?_) (fun c118_2 => ?_)
          · skip
            refine c_iinc (k := 2) hx hb (fun v123_2 => [(2, .int v123_2), (0, .ref (ad 0)), (1, .int p1)]) dX1_lookAhead_123 hl rfl (by decide) (by omega) (by decide) (fun _ => rfl) (fun v123_2 ls i123_2 hl => ?_)
            have hl : lv_has ls 3 [(2, .int v123_2), (0, .ref (ad 0)), (1, .int p1)] := hl
            refine lv_goto (tgt := 79) hx hb dX1_lookAhead_126 (by decide) ?_
            exact ih79 (k + 1 + 1) v123_2 u115_2.1 u115_2.2 _ _ _ (by omega) (by omega) (by omega) (fun h => absurd h (by omega)) (fun j hj => by
                              have hT : Tt (rwX u115_2.1 u115_2.2 (k + 1)) (Fw f Dn Cn p1.toInt (k + 1)) := by
                                rcases q115_2.1 with ⟨-, z⟩ | ⟨z, -⟩
                                · exact z.congr hstep
                                · omega
                              rcases (show j < k + 1 ∨ j = k + 1 by omega) with hj | rfl
                              · have ek : rwX u115_2.1 u115_2.2 j = rwX lo1 hi1 j := rw_keep (lo := lo1) (hi := hi1) (fun i h1 h2 => ⟨(q115_2.2 i (by omega)).1.trans ((q110.2 i (by omega)).1.trans (q97.2 i (by omega)).1), (q115_2.2 i (by omega)).2.trans ((q110.2 i (by omega)).2.trans (q97.2 i (by omega)).2)⟩)
                                rw [ek]; exact hrows j (by omega)
                              · exact ⟨hT, (by
                                  have hu := bh_up (P := Fw f Dn Cn p1.toInt (k + 1)) hbk (show bd (rwX u97.1 u97.2 61) 360 by have w1 := q97.1; have w2 := hcb.2; unfold eq6 at w1; unfold bd at *; omega) hz hT (fun a b h => ⟨((hstep a b).mpr h).1, alw_0 _ (Fw_alw h)⟩)
                                  exact bh_le hu (by omega))⟩) hP hD hS (lv_sub hl [1, 2, 0] rfl)
          · skip
            refine lv_iload_n hx hb dX1_lookAhead_121 rfl (lv_at hl 2 rfl) ?_
            exact c_ri (u115_2.1, u115_2.2) hx hb hr hlocks hK hP hD hS dX1_lookAhead_122 (by
                    refine Or.inr ⟨k + 1, by omega, by omega, fun a b h => ?_, fun j hj => ?_⟩
                    · rcases q115_2.1 with ⟨z, -⟩ | ⟨-, z⟩
                      · omega
                      · exact z a b ((hstep a b).mpr h)
                    · exact (hrows j hj).1.some)
  exact HL79 (Tn + 2) 0 v77 lo0 hi0 _ _ _ (by omega) (by omega) (by omega) (fun _ => hst) (fun j h => absurd h (by omega)) hP hD hS (lv_sub hl [1, 2, 0] rfl)
