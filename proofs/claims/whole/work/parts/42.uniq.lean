/-! what the words of the answers decide -/
theorem up2_e (f : Nat → Nat → Int32) (k j : Nat) (x : Int32) : up2 f k j x k = upd (f k) j x := by unfold up2; simp
theorem up2_n {f : Nat → Nat → Int32} {k j i : Nat} {x : Int32} (h : i ≠ k) : up2 f k j x i = f i := by
  unfold up2
  have : Nat.beq i k = false := by cases hb : Nat.beq i k with
    | false => rfl
    | true => exact absurd (Nat.eq_of_beq_eq_true hb) h
  rw [this]; rfl
theorem st2_e (f : Nat → Nat → Int32) (k : Nat) (g : Nat → Int32) : st2 f k g k = g := by unfold st2; simp
theorem st2_n {f : Nat → Nat → Int32} {k i : Nat} {g : Nat → Int32} (h : i ≠ k) : st2 f k g i = f i := by
  unfold st2
  have : Nat.beq i k = false := by cases hb : Nat.beq i k with
    | false => rfl
    | true => exact absurd (Nat.eq_of_beq_eq_true hb) h
  rw [this]; rfl
theorem Inv_clr {f : Nat → Nat → Int32} {t : Nat} (h : 1 ≤ t ∧ t ≤ 60) : Inv (clr f) t 0 0 := by
  have e4 : clr f 4 = fun _ => -1 := by unfold clr; rw [st2_n (by decide), st2_n (by decide), st2_n (by decide), st2_e]
  have e5 : clr f 5 = fun _ => -1 := by unfold clr; rw [st2_n (by decide), st2_n (by decide), st2_e]
  have e6 : clr f 6 = fun _ => 0 := by unfold clr; rw [st2_n (by decide), st2_e]
  have e7 : clr f 7 = fun _ => 0 := by unfold clr; rw [st2_e]
  refine ⟨⟨h.1, h.2, by omega, by omega⟩, fun d hd => absurd hd (by omega), fun j _ => Or.inl ?_, fun k _ => ?_, fun q hq => absurd hq (by omega)⟩
  · rw [e4, e5]; exact ⟨rfl, rfl⟩
  · rw [e6, e7]; exact (by decide : (0 : Int) ≤ (0 : Int32).toInt ∧ (0 : Int32).toInt ≤ (0 : Int32).toInt ∧ (0 : Int32).toInt ≤ 9999)
theorem upd_cs {g : Nat → Int32} {k j : Nat} {x : Int32} : upd g k x j = if j = k then x else g j := rfl
theorem Inv_dor {f : Nat → Nat → Int32} {Tn Dn Cn : Nat} {a b c e : Int32} (hI : Inv f Tn Dn Cn) (h : Dn < 6 ∧ (0 ≤ a.toInt ∧ a.toInt ≤ 2) ∧ (0 ≤ b.toInt ∧ b.toInt ≤ 5) ∧ (0 ≤ c.toInt ∧ c.toInt ≤ 5) ∧ (0 ≤ e.toInt ∧ e.toInt ≤ 20)) : Inv (dorF f Dn a b c e) Tn (Dn + 1) Cn := by
  obtain ⟨h0, hd, hr, hs, hc⟩ := hI
  have e0 : dorF f Dn a b c e 0 = upd (f 0) Dn a := by unfold dorF; rw [up2_n (by decide), up2_n (by decide), up2_n (by decide), up2_e]
  have e1 : dorF f Dn a b c e 1 = upd (f 1) Dn b := by unfold dorF; rw [up2_n (by decide), up2_n (by decide), up2_e, up2_n (by decide)]
  have e2 : dorF f Dn a b c e 2 = upd (f 2) Dn c := by unfold dorF; rw [up2_n (by decide), up2_e, up2_n (by decide), up2_n (by decide)]
  have e3 : dorF f Dn a b c e 3 = upd (f 3) Dn e := by unfold dorF; rw [up2_e, up2_n (by decide), up2_n (by decide), up2_n (by decide)]
  have en : ∀ i, 4 ≤ i → dorF f Dn a b c e i = f i := fun i hi => by unfold dorF; rw [up2_n (by omega), up2_n (by omega), up2_n (by omega), up2_n (by omega)]
  unfold Inv
  rw [e0, e1, e2, e3, en 4 (by omega), en 5 (by omega), en 6 (by omega), en 7 (by omega), en 8 (by omega), en 9 (by omega), en 10 (by omega), en 11 (by omega)]
  refine ⟨by omega, fun d hdd => ?_, hr, hs, hc⟩
  rcases (show d < Dn ∨ d = Dn by omega) with g | rfl
  · rw [pk_un (by omega), pk_un (by omega), pk_un (by omega), pk_un (by omega)]; exact hd d g
  · rw [pk_us, pk_us, pk_us, pk_us]; exact h.2
theorem Inv_row {f : Nat → Nat → Int32} {Tn Dn Cn k : Nat} {a b : Int32} (hI : Inv f Tn Dn Cn) (h : ((0 ≤ a.toInt ∧ a.toInt ≤ 20) ∧ (0 ≤ b.toInt ∧ b.toInt ≤ 20)) ∨ (a.toInt = -1 ∧ b.toInt = -1)) : Inv (rowF f k a b) Tn Dn Cn := by
  obtain ⟨h0, hd, hr, hs, hc⟩ := hI
  have e4 : rowF f k a b 4 = upd (f 4) k a := by unfold rowF; rw [up2_n (by decide), up2_e]
  have e5 : rowF f k a b 5 = upd (f 5) k b := by unfold rowF; rw [up2_e, up2_n (by decide)]
  have en : ∀ i, i ≠ 4 → i ≠ 5 → rowF f k a b i = f i := fun i h1 h2 => by unfold rowF; rw [up2_n h2, up2_n h1]
  unfold Inv
  rw [e4, e5, en 0 (by omega) (by omega), en 1 (by omega) (by omega), en 2 (by omega) (by omega), en 3 (by omega) (by omega), en 6 (by omega) (by omega), en 7 (by omega) (by omega), en 8 (by omega) (by omega), en 9 (by omega) (by omega), en 10 (by omega) (by omega), en 11 (by omega) (by omega)]
  refine ⟨h0, hd, fun j hj => ?_, hs, hc⟩
  by_cases g : j = k
  · subst g; rw [pk_us, pk_us]; omega
  · rw [pk_un g, pk_un g]; exact hr j hj
theorem Inv_lck {f : Nat → Nat → Int32} {Tn Dn Cn d a : Nat} (hI : Inv f Tn Dn Cn) : ∀ n, Inv (lck f d a n) Tn Dn Cn
  | 0 => hI
  | n + 1 => Inv_row (k := 60 * d + (a + n)) (a := -1) (b := -1) (Inv_lck hI n) (Or.inr ⟨rfl, rfl⟩)
theorem Inv_sta {f : Nat → Nat → Int32} {Tn Dn Cn k : Nat} {a b : Int32} (hI : Inv f Tn Dn Cn) (h : 0 ≤ a.toInt ∧ a.toInt ≤ b.toInt ∧ b.toInt ≤ 9999) : Inv (staF f k a b) Tn Dn Cn := by
  obtain ⟨h0, hd, hr, hs, hc⟩ := hI
  have e6 : staF f k a b 6 = upd (f 6) k a := by unfold staF; rw [up2_n (by decide), up2_e]
  have e7 : staF f k a b 7 = upd (f 7) k b := by unfold staF; rw [up2_e, up2_n (by decide)]
  have en : ∀ i, i ≠ 6 → i ≠ 7 → staF f k a b i = f i := fun i h1 h2 => by unfold staF; rw [up2_n h2, up2_n h1]
  unfold Inv
  rw [e6, e7, en 0 (by omega) (by omega), en 1 (by omega) (by omega), en 2 (by omega) (by omega), en 3 (by omega) (by omega), en 4 (by omega) (by omega), en 5 (by omega) (by omega), en 8 (by omega) (by omega), en 9 (by omega) (by omega), en 10 (by omega) (by omega), en 11 (by omega) (by omega)]
  refine ⟨h0, hd, hr, fun j hj => ?_, hc⟩
  by_cases g : j = k
  · subst g; rw [pk_us, pk_us]; exact h
  · rw [pk_un g, pk_un g]; exact hs j hj
theorem Inv_chk {f : Nat → Nat → Int32} {Tn Dn Cn : Nat} {a b c e : Int32} (hI : Inv f Tn Dn Cn) (h : Cn < 20 ∧ (0 ≤ a.toInt ∧ a.toInt ≤ (Tn : Int)) ∧ (0 ≤ b.toInt ∧ b.toInt ≤ 2) ∧ (0 ≤ c.toInt ∧ c.toInt ≤ e.toInt ∧ e.toInt ≤ 9999)) : Inv (chkF f Cn a b c e) Tn Dn (Cn + 1) := by
  obtain ⟨h0, hd, hr, hs, hc⟩ := hI
  have e8 : chkF f Cn a b c e 8 = upd (f 8) Cn a := by unfold chkF; rw [up2_n (by decide), up2_n (by decide), up2_n (by decide), up2_e]
  have e9 : chkF f Cn a b c e 9 = upd (f 9) Cn b := by unfold chkF; rw [up2_n (by decide), up2_n (by decide), up2_e, up2_n (by decide)]
  have e10 : chkF f Cn a b c e 10 = upd (f 10) Cn c := by unfold chkF; rw [up2_n (by decide), up2_e, up2_n (by decide), up2_n (by decide)]
  have e11 : chkF f Cn a b c e 11 = upd (f 11) Cn e := by unfold chkF; rw [up2_e, up2_n (by decide), up2_n (by decide), up2_n (by decide)]
  have en : ∀ i, i < 8 → chkF f Cn a b c e i = f i := fun i hi => by unfold chkF; rw [up2_n (by omega), up2_n (by omega), up2_n (by omega), up2_n (by omega)]
  unfold Inv
  rw [e8, e9, e10, e11, en 0 (by omega), en 1 (by omega), en 2 (by omega), en 3 (by omega), en 4 (by omega), en 5 (by omega), en 6 (by omega), en 7 (by omega)]
  refine ⟨by omega, hd, hr, hs, fun q hq => ?_⟩
  rcases (show q < Cn ∨ q = Cn by omega) with g | rfl
  · rw [pk_un (by omega), pk_un (by omega), pk_un (by omega), pk_un (by omega)]; exact hc q g
  · rw [pk_us, pk_us, pk_us, pk_us]; omega
theorem Inv_unc {f : Nat → Nat → Int32} {Tn Dn Cn : Nat} (hI : Inv f Tn Dn Cn) : Inv f Tn Dn (Cn - 1) := by
  obtain ⟨h0, hd, hr, hs, hc⟩ := hI
  exact ⟨by omega, hd, hr, hs, fun q hq => hc q (by omega)⟩
section UQ
variable {f : Nat → Nat → Int32} {Tn Dn Cn : Nat} {r r' : Int}
theorem FT_uniq (h : FT f Tn Dn Cn r) (h' : FT f Tn Dn Cn r') : r = r' := by
  obtain ⟨v, R, h1, h2⟩ := h; obtain ⟨v', R', g1, g2⟩ := h'
  have := LA_uniq h1 g1
  omega
theorem QR_uniq (h : QR f Tn Dn Cn r) (h' : QR f Tn Dn Cn r') : r = r' := by
  obtain ⟨R, h1⟩ := h; obtain ⟨R', g1⟩ := h'
  exact LA_uniq h1 g1
theorem WR_uniq (h : WR f Tn Dn Cn r) (h' : WR f Tn Dn Cn r') : r = r' := by
  have key : ∀ {k : Nat}, (∃ R, LA f Tn Dn Cn (k : Int) (-1) R) → ¬ (∃ v R, LA f Tn Dn Cn (k : Int) v R ∧ v ≠ -1) := by
    rintro k ⟨R, h⟩ ⟨v, R', h', hn⟩
    exact hn (LA_uniq h' h)
  rcases h with ⟨k, h1, h2, h3, h4⟩ | ⟨h1, h2⟩
  · rcases h' with ⟨k', g1, g2, g3, g4⟩ | ⟨g1, g2⟩
    · rcases Nat.lt_trichotomy k k' with q | q | q
      · exact absurd (g4 k q) (key h3)
      · rw [h2, g2, q]
      · exact absurd (h4 k' q) (key g3)
    · exact absurd (g2 k (by omega)) (key h3)
  · rcases h' with ⟨k', g1, g2, g3, g4⟩ | ⟨g1, g2⟩
    · exact absurd (h2 k' (by omega)) (key g3)
    · rw [h1, g1]
theorem CN_uniq {p : Int} (h : CN f Tn Dn Cn p r) (h' : CN f Tn Dn Cn p r') : r = r' := by unfold CN at *; omega
/-- a pair in a truth at some time: there is a truth -/
theorem Fw_dn {mr : Int} : ∀ (k t : Nat), (∃ a b, Fw f Dn Cn mr (t + k) a b) → ∃ a b, Fw f Dn Cn mr t a b
  | 0, t, h => h
  | k + 1, t, h => by
    obtain ⟨a, b, ⟨a', b', h1, -⟩, -⟩ := h
    exact Fw_dn k t ⟨a', b', h1⟩
theorem Trv_T : ∀ n, n ≤ Tn → (∃ a b, Trv f Tn Dn Cn n a b) → ∃ a b, Fw f Dn Cn 0 Tn a b
  | 0, _, h => h
  | n + 1, hn, h => by
    obtain ⟨a, b, -, a', b', -, h2⟩ := h
    exact Trv_T n (by omega) ⟨_, _, h2⟩
theorem Trv_yes {n : Nat} (hn : n ≤ Tn) (h : ∃ a b, Trv f Tn Dn Cn n a b) : ¬ noT f Tn Dn Cn 0 := by
  rintro ⟨t, ht, hno⟩
  have h1 := Trv_T n hn h
  obtain ⟨a, b, q⟩ := Fw_dn (f := f) (Dn := Dn) (Cn := Cn) (mr := 0) (Tn - t) t (by rw [show t + (Tn - t) = Tn by omega]; exact h1)
  exact hno a b q
theorem eq6_at {x y : Nat → Int} (h : eq6 x y) {i : Nat} (hi : i < 6) : x i = y i := by
  obtain ⟨h0, h1, h2, h3, h4, h5⟩ := h
  rcases (show i = 0 ∨ i = 1 ∨ i = 2 ∨ i = 3 ∨ i = 4 ∨ i = 5 by omega) with rfl | rfl | rfl | rfl | rfl | rfl <;> assumption
theorem FA_uniq {lim : Int} {w : Nat} (hw : w < 6) (h : FA f Tn Dn Cn lim r w) (h' : FA f Tn Dn Cn lim r' w) : r = r' := by
  have no : ∀ {R : Nat → Nat → Int}, (∀ j, j ≤ Tn → Tt (R j) (Trv f Tn Dn Cn (Tn - j))) → ¬ noT f Tn Dn Cn 0 := fun h => Trv_yes (n := Tn - 0) (by omega) (h 0 (by omega)).some
  rcases h with ⟨h1, h2⟩ | ⟨h1, R, h2, h3⟩
  · rcases h' with ⟨g1, g2⟩ | ⟨g1, R', g2, g3⟩
    · rw [h2, g2]
    · rcases h1 with h1 | h1
      · exact absurd g1 h1
      · exact absurd h1 (no g2)
  · rcases h' with ⟨g1, g2⟩ | ⟨g1, R', g2, g3⟩
    · rcases g1 with g1 | g1
      · exact absurd h1 g1
      · exact absurd g1 (no h2)
    · have e : ∀ j, j ≤ Tn → R j w = R' j w := fun j hj => eq6_at ((h2 j hj).uniq (g2 j hj)) hw
      rcases h3 with ⟨t, a1, a2, a3, a4⟩ | ⟨a1, a2⟩
      · rcases g3 with ⟨t', b1, b2, b3, b4⟩ | ⟨b1, b2⟩
        · have e1 := e t a1; have e2 := e t' b1
          rcases Nat.lt_trichotomy t t' with q | q | q
          · have := b4 t q; omega
          · rw [a2, b2, q]
          · have := a4 t' q; omega
        · have := b2 t a1; have := e t a1; omega
      · rcases g3 with ⟨t', b1, b2, b3, b4⟩ | ⟨b1, b2⟩
        · have := a2 t' b1; have := e t' b1; omega
        · rw [a1, b1]
theorem IN_uniq {tm wh ms th th' : Int} (h : IN f Tn Dn Cn tm wh ms th r) (h' : IN f Tn Dn Cn tm wh ms th' r') : th = th' ∧ (th = 0 → r = r') := by
  rcases h with ⟨h1, h2⟩ | ⟨h1, h2, h3⟩ | ⟨h1, h2, h3, R, h4, h5⟩
  · rcases h' with ⟨g1, g2⟩ | ⟨g1, g2, g3⟩ | ⟨g1, g2, g3, R', g4, g5⟩
    · exact ⟨by rw [h2, g2], fun h => by omega⟩
    · exact absurd g1 h1
    · exact absurd g1 h1
  · rcases h' with ⟨g1, g2⟩ | ⟨g1, g2, g3⟩ | ⟨g1, g2, g3, R', g4, g5⟩
    · exact absurd h1 g1
    · exact ⟨by rw [h3, g3], fun h => by omega⟩
    · exact absurd h2 g2
  · rcases h' with ⟨g1, g2⟩ | ⟨g1, g2, g3⟩ | ⟨g1, g2, g3, R', g4, g5⟩
    · exact absurd h1 g1
    · exact absurd g2 h2
    · refine ⟨by rw [h3, g3], fun _ => ?_⟩
      rw [h5, g5]
      exact eq6_at (h4.uniq g4) (by split <;> omega)
theorem LK_uniq {dr wh th th' : Int} (h : LK f Tn Dn dr wh th r) (h' : LK f Tn Dn dr wh th' r') : th = th' ∧ (th = 0 → r = r') := by
  unfold LK at *; omega
end UQ
