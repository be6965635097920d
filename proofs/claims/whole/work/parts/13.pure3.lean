theorem rw_keep {lo hi lo' hi' : Nat → Int32} {a : Nat} (h : ∀ j, 3 * a ≤ j → j < 3 * a + 3 → lo' j = lo j ∧ hi' j = hi j) : rwX lo' hi' a = rwX lo hi a := by
  funext i
  have h0 := h (3 * a) (by omega) (by omega); have h1 := h (3 * a + 1) (by omega) (by omega); have h2 := h (3 * a + 2) (by omega) (by omega)
  match i with
  | 0 => show (lo' (3 * a)).toInt = (lo (3 * a)).toInt; rw [h0.1]
  | 1 => show (hi' (3 * a)).toInt = (hi (3 * a)).toInt; rw [h0.2]
  | 2 => show (lo' (3 * a + 1)).toInt = (lo (3 * a + 1)).toInt; rw [h1.1]
  | 3 => show (hi' (3 * a + 1)).toInt = (hi (3 * a + 1)).toInt; rw [h1.2]
  | 4 => show (lo' (3 * a + 2)).toInt = (lo (3 * a + 2)).toInt; rw [h2.1]
  | i + 5 => show (hi' (3 * a + 2)).toInt = (hi (3 * a + 2)).toInt; rw [h2.2]
/-- the row behind a cut of one span -/
theorem cut_row {lo hi : Nat → Int32} {a w : Nat} {x y : Int32} (hw : w ≤ 2) : (∀ k, k ≤ 2 → k ≠ w → upd lo (3 * a + w) x (3 * a + k) = lo (3 * a + k) ∧ upd hi (3 * a + w) y (3 * a + k) = hi (3 * a + k)) ∧ upd lo (3 * a + w) x (3 * a + w) = x ∧ upd hi (3 * a + w) y (3 * a + w) = y :=
  ⟨fun k hk hne => ⟨pk_un (by omega), pk_un (by omega)⟩, pk_us, pk_us⟩
theorem cut_in {lo hi : Nat → Int32} {a w : Nat} {x y : Int32} {l h : Int} (hw : w ≤ 2) (hx : isMx x.toInt (lo (3 * a + w)).toInt l) (hy : isMn y.toInt (hi (3 * a + w)).toInt h) (p q : Int) :
    inR (rwX (upd lo (3 * a + w) x) (upd hi (3 * a + w) y) a) p q ↔ inR (rwX lo hi a) p q ∧ ((w = 0 ∧ l ≤ p ∧ p ≤ h) ∨ (w = 1 ∧ l ≤ q ∧ q ≤ h) ∨ (w = 2 ∧ l ≤ p + q ∧ p + q ≤ h)) := by
  obtain ⟨hk, e1, e2⟩ := cut_row (lo := lo) (hi := hi) (a := a) (x := x) (y := y) hw
  have hx' : x.toInt = max _ _ := hx
  have hy' : y.toInt = min _ _ := hy
  have g : ∀ (L H : Nat → Int32), inR (rwX L H a) p q ↔ ((L (3 * a + 0)).toInt ≤ p ∧ p ≤ (H (3 * a + 0)).toInt ∧ (L (3 * a + 1)).toInt ≤ q ∧ q ≤ (H (3 * a + 1)).toInt ∧ (L (3 * a + 2)).toInt ≤ p + q ∧ p + q ≤ (H (3 * a + 2)).toInt) := fun L H => Iff.rfl
  rw [g, g]
  rcases (show w = 0 ∨ w = 1 ∨ w = 2 by omega) with rfl | rfl | rfl
  · rw [e1, e2, (hk 1 (by omega) (by omega)).1, (hk 1 (by omega) (by omega)).2, (hk 2 (by omega) (by omega)).1, (hk 2 (by omega) (by omega)).2]; omega
  · rw [e1, e2, (hk 0 (by omega) (by omega)).1, (hk 0 (by omega) (by omega)).2, (hk 2 (by omega) (by omega)).1, (hk 2 (by omega) (by omega)).2]; omega
  · rw [e1, e2, (hk 0 (by omega) (by omega)).1, (hk 0 (by omega) (by omega)).2, (hk 1 (by omega) (by omega)).1, (hk 1 (by omega) (by omega)).2]; omega
theorem cut_bd {lo hi : Nat → Int32} {a w : Nat} {x y : Int32} {l h B : Int} (hw : w ≤ 2) (hx : isMx x.toInt (lo (3 * a + w)).toInt l) (hy : isMn y.toInt (hi (3 * a + w)).toInt h) (hB : bd (rwX lo hi a) B) (hl : l ≤ B) (hh : -B ≤ h) : bd (rwX (upd lo (3 * a + w) x) (upd hi (3 * a + w) y) a) B := by
  obtain ⟨hk, e1, e2⟩ := cut_row (lo := lo) (hi := hi) (a := a) (x := x) (y := y) hw
  have hx' : x.toInt = max _ _ := hx
  have hy' : y.toInt = min _ _ := hy
  have g : ∀ (L H : Nat → Int32), bd (rwX L H a) B ↔ ((-B ≤ (L (3 * a + 0)).toInt ∧ (L (3 * a + 0)).toInt ≤ B) ∧ (-B ≤ (H (3 * a + 0)).toInt ∧ (H (3 * a + 0)).toInt ≤ B) ∧ (-B ≤ (L (3 * a + 1)).toInt ∧ (L (3 * a + 1)).toInt ≤ B) ∧ (-B ≤ (H (3 * a + 1)).toInt ∧ (H (3 * a + 1)).toInt ≤ B) ∧ (-B ≤ (L (3 * a + 2)).toInt ∧ (L (3 * a + 2)).toInt ≤ B) ∧ (-B ≤ (H (3 * a + 2)).toInt ∧ (H (3 * a + 2)).toInt ≤ B)) := fun L H => Iff.rfl
  rw [g] at hB ⊢
  rcases (show w = 0 ∨ w = 1 ∨ w = 2 by omega) with rfl | rfl | rfl
  · rw [e1, e2, (hk 1 (by omega) (by omega)).1, (hk 1 (by omega) (by omega)).2, (hk 2 (by omega) (by omega)).1, (hk 2 (by omega) (by omega)).2]; omega
  · rw [e1, e2, (hk 0 (by omega) (by omega)).1, (hk 0 (by omega) (by omega)).2, (hk 2 (by omega) (by omega)).1, (hk 2 (by omega) (by omega)).2]; omega
  · rw [e1, e2, (hk 0 (by omega) (by omega)).1, (hk 0 (by omega) (by omega)).2, (hk 1 (by omega) (by omega)).1, (hk 1 (by omega) (by omega)).2]; omega
/-- the start's row -/
def isSt (f : Nat → Nat → Int32) (r : Nat → Int) : Prop := r 0 = (f 6 0).toInt ∧ r 1 = (f 7 0).toInt ∧ r 2 = (f 6 1).toInt ∧ r 3 = (f 7 1).toInt ∧ r 4 = (f 6 0).toInt + (f 6 1).toInt ∧ r 5 = (f 7 0).toInt + (f 7 1).toInt
theorem Fw_0 {f : Nat → Nat → Int32} {Dn Cn : Nat} {mr : Int} {r : Nat → Int} (h : isSt f r) (a b : Int) : (inR r a b ∧ alw f 0 Cn a b) ↔ Fw f Dn Cn mr 0 a b := by
  have g : inR r a b ↔ (((f 6 0).toInt ≤ a ∧ a ≤ (f 7 0).toInt) ∧ ((f 6 1).toInt ≤ b ∧ b ≤ (f 7 1).toInt)) := by unfold isSt at h; unfold inR; omega
  rw [g]; exact Iff.rfl
theorem inR_cg {r q : Nat → Int} (h : eq6 r q) (a b : Int) : inR r a b ↔ inR q a b := by unfold eq6 at h; unfold inR; omega
theorem tgt_cg {r q : Nat → Int} (h : eq6 r q) (hq : tgt q) : tgt r := by unfold eq6 at h; unfold tgt ok6 at *; omega
theorem Fw_1 {f : Nat → Nat → Int32} {Tn Dn Cn t : Nat} {mr : Int} (hI : Inv f Tn Dn Cn) (ht : t < Tn) (h0 : 0 ≤ mr) (h5 : mr ≤ 5) {x c z : Nat → Int} (hx : Tt x (Fw f Dn Cn mr t)) (hc : eq6 c (crow (mvs f t mr (-1) Dn))) (hz : sm6 z x c) (a b : Int) : (inR z a b ∧ alw f (t + 1) Cn a b) ↔ Fw f Dn Cn mr (t + 1) a b := by
  have hct := (crow_bd (but := -1) hI ht h0 h5 Dn (Nat.le_refl _)).1
  have g := sum_ex hx.1 (tgt_cg hc hct) hz a b
  show _ ↔ (∃ a' b', Fw f Dn Cn mr t a' b' ∧ inR (crow (mvs f t mr (-1) Dn)) (a - a') (b - b')) ∧ _
  rw [g]
  constructor
  · rintro ⟨⟨a', b', h1, h2⟩, h3⟩
    exact ⟨⟨a', b', (hx.2 _ _).mp h1, (inR_cg hc _ _).mp h2⟩, h3⟩
  · rintro ⟨⟨a', b', h1, h2⟩, h3⟩
    exact ⟨⟨a', b', (hx.2 _ _).mpr h1, (inR_cg hc _ _).mpr h2⟩, h3⟩
theorem bh_up {x c z q : Nat → Int} {P : Int → Int → Prop} {B : Int} (hx : bh x B) (hc : bd c 360) (hz : sm6 z x c) (hq : Tt q P) (hP : ∀ a b, P a b → inR z a b ∧ 0 ≤ a ∧ 0 ≤ b) : bh q (B + 360) :=
  Tt_bh hq hP (by unfold bh at hx; unfold bd at hc; unfold sm6 at hz; omega)
/-- what looking ahead tells: all rows, or the first time at which nothing is left -/
def LA (f : Nat → Nat → Int32) (Tn Dn Cn : Nat) (mr r : Int) (R : Nat → Nat → Int) : Prop :=
  (r = -1 ∧ ∀ j, j ≤ Tn → Tt (R j) (Fw f Dn Cn mr j) ∧ bh (R j) 50000) ∨ (∃ t : Nat, t ≤ Tn ∧ r = (t : Int) ∧ (∀ a b, ¬ Fw f Dn Cn mr t a b) ∧ ∀ j, j < t → ∃ a b, Fw f Dn Cn mr j a b)
theorem LA_uniq {f : Nat → Nat → Int32} {Tn Dn Cn : Nat} {mr r r' : Int} {R R' : Nat → Nat → Int} (h : LA f Tn Dn Cn mr r R) (h' : LA f Tn Dn Cn mr r' R') : r = r' := by
  rcases h with ⟨h1, h2⟩ | ⟨t, h1, h2, h3, h4⟩
  · rcases h' with ⟨g1, g2⟩ | ⟨t', g1, g2, g3, g4⟩
    · rw [h1, g1]
    · obtain ⟨a, b, q⟩ := (h2 t' g1).1.some
      exact absurd q (g3 a b)
  · rcases h' with ⟨g1, g2⟩ | ⟨t', g1, g2, g3, g4⟩
    · obtain ⟨a, b, q⟩ := (g2 t h1).1.some
      exact absurd q (h3 a b)
    · rcases Nat.lt_trichotomy t t' with q | q | q
      · obtain ⟨a, b, z⟩ := g4 t q
        exact absurd z (h3 a b)
      · rw [h2, g2, q]
      · obtain ⟨a, b, z⟩ := h4 t' q
        exact absurd z (g3 a b)
theorem Trv_Fw {f : Nat → Nat → Int32} {Tn Dn Cn n : Nat} {a b : Int} (h : Trv f Tn Dn Cn n a b) : Fw f Dn Cn 0 (Tn - n) a b := by
  cases n with
  | zero => exact h
  | succ n => exact h.1
def dfr (y c : Nat → Int) : Nat → Int := fun i => match i with | 0 => y 0 - c 1 | 1 => y 1 - c 0 | 2 => y 2 - c 3 | 3 => y 3 - c 2 | 4 => y 4 - c 5 | _ => y 5 - c 4
theorem cd6_in {z x y c : Nat → Int} (hz : cd6 z x y c) (a b : Int) : inR z a b ↔ inR x a b ∧ inR (dfr y c) a b := by
  show _ ↔ _ ∧ (y 0 - c 1 ≤ a ∧ a ≤ y 1 - c 0 ∧ y 2 - c 3 ≤ b ∧ b ≤ y 3 - c 2 ∧ y 4 - c 5 ≤ a + b ∧ a + b ≤ y 5 - c 4)
  obtain ⟨h0, h1, h2, h3, h4, h5⟩ := hz
  unfold inR
  rw [h0, h1, h2, h3, h4, h5]
  omega
/-- one time back -/
theorem Trv_1 {f : Nat → Nat → Int32} {Tn Dn Cn k : Nat} (hI : Inv f Tn Dn Cn) (hk : k + 1 ≤ Tn) {x y c z q : Nat → Int} (hx : Tt x (Fw f Dn Cn 0 k)) (hy : Tt y (Trv f Tn Dn Cn (Tn - (k + 1)))) (hc : eq6 c (crow (mvs f k 0 (-1) Dn))) (hz : cd6 z x y c) (hq : isTg q z) : Tt q (Trv f Tn Dn Cn (Tn - k)) := by
  have hct := tgt_cg hc (crow_bd (mr := 0) (but := -1) hI (show k < Tn by omega) (by omega) (by omega) Dn (Nat.le_refl _)).1
  have e : Tn - k = (Tn - (k + 1)) + 1 := by omega
  have e2 : Tn - (Tn - (k + 1) + 1) = k := by omega
  have hs : ∀ a b, inR z a b ↔ Trv f Tn Dn Cn (Tn - k) a b := by
    intro a b
    rw [cd6_in hz a b, dif_ex (z := dfr y c) hy.1 hct ⟨rfl, rfl, rfl, rfl, rfl, rfl⟩ a b, e]
    show _ ↔ Fw f Dn Cn 0 (Tn - (Tn - (k + 1) + 1)) a b ∧ ∃ a' b', inR (crow (mvs f (Tn - (Tn - (k + 1) + 1)) 0 (-1) Dn)) a' b' ∧ Trv f Tn Dn Cn (Tn - (k + 1)) (a + a') (b + b')
    rw [e2, hx.2 a b]
    constructor
    · rintro ⟨h1, a', b', h2, h3⟩
      exact ⟨h1, a', b', (inR_cg hc _ _).mp h2, (hy.2 _ _).mp h3⟩
    · rintro ⟨h1, a', b', h2, h3⟩
      exact ⟨h1, a', b', (inR_cg hc _ _).mpr h2, (hy.2 _ _).mpr h3⟩
  obtain ⟨a, b, hab⟩ := hy.some
  have hF := Trv_Fw hab
  have e3 : Tn - (Tn - (k + 1)) = k + 1 := by omega
  rw [e3] at hF
  obtain ⟨⟨a', b', h1, h2⟩, -⟩ := hF
  have hp : Trv f Tn Dn Cn (Tn - k) a' b' := by
    rw [e]
    refine ⟨by rw [e2]; exact h1, a - a', b - b', by rw [e2]; exact h2, ?_⟩
    have g1 : a' + (a - a') = a := by omega
    have g2 : b' + (b - b') = b := by omega
    rw [g1, g2]; exact hab
  have hok : ok6 q := in_ok ((tg_same hq a' b').mpr ((hs a' b').mpr hp))
  exact ⟨tg_tgt hq hok, fun a b => (tg_same hq a b).trans (hs a b)⟩
theorem cd6_bd {z x y c : Nat → Int} {B : Int} (hz : cd6 z x y c) (hx : bd x B) (hy : bd y B) (hc : bd c B) : bd z (2 * B) := by
  obtain ⟨h0, h1, h2, h3, h4, h5⟩ := hz
  unfold bd at *
  refine ⟨?_, ?_, ?_, ?_, ?_, ?_⟩ <;> omega
/-- THROUGH, least and most, out of the row behind, the row ahead, the other doors' change -/
def thL (kd nl : Int) (y x c : Nat → Int) : Int := if kd = 0 then max nl (max (y 0 - x 1 - c 1) (y 4 - x 5 - c 5)) else if kd = 1 then max nl (max (y 2 - x 3 - c 3) (y 4 - x 5 - c 5)) else max nl (max (y 2 - x 3 - c 3) (-(y 1 - x 0 - c 0)))
def thH (kd nh : Int) (y x c : Nat → Int) : Int := if kd = 0 then min nh (min (y 1 - x 0 - c 0) (y 5 - x 4 - c 4)) else if kd = 1 then min nh (min (y 3 - x 2 - c 2) (y 5 - x 4 - c 4)) else min nh (min (y 3 - x 2 - c 2) (-(y 0 - x 1 - c 1)))
