/-! The state: worlds, rows, and what is said of them. -/
def up2 (f : Nat → Nat → Int32) (k j : Nat) (x : Int32) : Nat → Nat → Int32 := fun i => bif Nat.beq i k then upd (f k) j x else f i
def st2 (f : Nat → Nat → Int32) (k : Nat) (g : Nat → Int32) : Nat → Nat → Int32 := fun i => bif Nat.beq i k then g else f i
abbrev WA (cI : ClassId) (aa zl : Nat) (g : Nat → Int32) : va_W := [(aa, .inl (cI, zl, .inl g))]
abbrev WS (cI : ClassId) (ad : Nat → Nat) (lo hi : Nat → Int32) : va_W := [(ad 13, .inr (0, [.ref (ad 14), .ref (ad 15)])), (ad 14, .inl (cI, 186, .inl lo)), (ad 15, .inl (cI, 186, .inl hi))]
abbrev WX (cI : ClassId) (ad : Nat → Nat) (f : Nat → Nat → Int32) (lo hi : Nat → Int32) (T Dv C : Int32) : va_W :=
  [(ad 0, .inr (1, [.ref (ad 1), .ref (ad 2), .ref (ad 3), .ref (ad 4), .ref (ad 5), .ref (ad 6), .ref (ad 7), .ref (ad 8), .ref (ad 9), .ref (ad 10), .ref (ad 11), .ref (ad 12), .ref (ad 13), .int T, .int Dv, .int C])),
   (ad 1, .inl (cI, 6, .inl (f 0))), (ad 2, .inl (cI, 6, .inl (f 1))), (ad 3, .inl (cI, 6, .inl (f 2))), (ad 4, .inl (cI, 6, .inl (f 3))), (ad 5, .inl (cI, 360, .inl (f 4))), (ad 6, .inl (cI, 360, .inl (f 5))), (ad 7, .inl (cI, 2, .inl (f 6))), (ad 8, .inl (cI, 2, .inl (f 7))), (ad 9, .inl (cI, 20, .inl (f 8))), (ad 10, .inl (cI, 20, .inl (f 9))), (ad 11, .inl (cI, 20, .inl (f 10))), (ad 12, .inl (cI, 20, .inl (f 11))),
   (ad 13, .inr (0, [.ref (ad 14), .ref (ad 15)])), (ad 14, .inl (cI, 186, .inl lo)), (ad 15, .inl (cI, 186, .inl hi))]
abbrev oM (ad : Nat → Nat) (T Dv C th mo : Int32) : va_E := .inr (2, [.int T, .int Dv, .ref (ad 1), .ref (ad 2), .ref (ad 3), .ref (ad 4), .ref (ad 5), .ref (ad 6), .ref (ad 7), .ref (ad 8), .int C, .ref (ad 9), .ref (ad 10), .ref (ad 11), .ref (ad 12), .int th, .ref (ad 13), .ref (ad 14), .ref (ad 15), .ref (ad 16), .int mo])
abbrev WM (cI : ClassId) (ad : Nat → Nat) (f : Nat → Nat → Int32) (ah bk bo mv : Nat → Int32) (T Dv C th mo : Int32) : va_W :=
  [(ad 0, oM ad T Dv C th mo),
   (ad 1, .inl (cI, 6, .inl (f 0))), (ad 2, .inl (cI, 6, .inl (f 1))), (ad 3, .inl (cI, 6, .inl (f 2))), (ad 4, .inl (cI, 6, .inl (f 3))), (ad 5, .inl (cI, 360, .inl (f 4))), (ad 6, .inl (cI, 360, .inl (f 5))), (ad 7, .inl (cI, 2, .inl (f 6))), (ad 8, .inl (cI, 2, .inl (f 7))), (ad 9, .inl (cI, 20, .inl (f 8))), (ad 10, .inl (cI, 20, .inl (f 9))), (ad 11, .inl (cI, 20, .inl (f 10))), (ad 12, .inl (cI, 20, .inl (f 11))),
   (ad 13, .inl (cI, 366, .inl ah)), (ad 14, .inl (cI, 366, .inl bk)), (ad 15, .inl (cI, 366, .inl bo)), (ad 16, .inl (cI, 6, .inl mv))]
abbrev WC (cI : ClassId) (ad : Nat → Nat) (as : Nat) (T Dv C th mo : Int32) (sa : Nat → Int32) : va_W := [(ad 0, oM ad T Dv C th mo), (as, .inl (cI, 366, .inl sa))]
abbrev WH (cI : ClassId) (ad : Nat → Nat) (as : Nat) (f : Nat → Nat → Int32) (T Dv C th mo : Int32) (sa : Nat → Int32) : va_W :=
  [(ad 0, oM ad T Dv C th mo), (ad 9, .inl (cI, 20, .inl (f 8))), (ad 10, .inl (cI, 20, .inl (f 9))), (ad 11, .inl (cI, 20, .inl (f 10))), (ad 12, .inl (cI, 20, .inl (f 11))), (as, .inl (cI, 366, .inl sa))]
/-- a row of six: low and high of A, of B, of both -/
def rwX (lo hi : Nat → Int32) (a : Nat) : Nat → Int := fun i => match i with
  | 0 => (lo (3 * a)).toInt
  | 1 => (hi (3 * a)).toInt
  | 2 => (lo (3 * a + 1)).toInt
  | 3 => (hi (3 * a + 1)).toInt
  | 4 => (lo (3 * a + 2)).toInt
  | _ => (hi (3 * a + 2)).toInt
def rwM (s : Nat → Int32) (t : Nat) : Nat → Int := fun i => (s (6 * t + i)).toInt
/-- all six within -b .. b -/
def bd (r : Nat → Int) (b : Int) : Prop := (-b ≤ r 0 ∧ r 0 ≤ b) ∧ (-b ≤ r 1 ∧ r 1 ≤ b) ∧ (-b ≤ r 2 ∧ r 2 ≤ b) ∧ (-b ≤ r 3 ∧ r 3 ≤ b) ∧ (-b ≤ r 4 ∧ r 4 ≤ b) ∧ (-b ≤ r 5 ∧ r 5 ≤ b)
def eq6 (r q : Nat → Int) : Prop := r 0 = q 0 ∧ r 1 = q 1 ∧ r 2 = q 2 ∧ r 3 = q 3 ∧ r 4 = q 4 ∧ r 5 = q 5
def inR (r : Nat → Int) (a b : Int) : Prop := r 0 ≤ a ∧ a ≤ r 1 ∧ r 2 ≤ b ∧ b ≤ r 3 ∧ r 4 ≤ a + b ∧ a + b ≤ r 5
def ok6 (r : Nat → Int) : Prop := r 0 ≤ r 1 ∧ r 2 ≤ r 3 ∧ r 4 ≤ r 5
def tgt (r : Nat → Int) : Prop := ok6 r ∧ r 4 - r 3 ≤ r 0 ∧ r 1 ≤ r 5 - r 2 ∧ r 4 - r 1 ≤ r 2 ∧ r 3 ≤ r 5 - r 0 ∧ r 0 + r 2 ≤ r 4 ∧ r 5 ≤ r 1 + r 3
/-- q is r, drawn in once by the old ends -/
def isTg (q r : Nat → Int) : Prop := q 0 = max (r 0) (r 4 - r 3) ∧ q 1 = min (r 1) (r 5 - r 2) ∧ q 2 = max (r 2) (r 4 - r 1) ∧ q 3 = min (r 3) (r 5 - r 0) ∧ q 4 = max (r 4) (r 0 + r 2) ∧ q 5 = min (r 5) (r 1 + r 3)
/-- q is r, drawn in once, each end by the newest -/
def isCl (q r : Nat → Int) : Prop := q 0 = max (r 0) (r 4 - r 3) ∧ q 1 = min (r 1) (r 5 - r 2) ∧ q 2 = max (r 2) (r 4 - q 1) ∧ q 3 = min (r 3) (r 5 - q 0) ∧ q 4 = max (r 4) (q 0 + q 2) ∧ q 5 = min (r 5) (q 1 + q 3)
/-- the row r is tight, and holds the pairs P -/
def Tt (r : Nat → Int) (P : Int → Int → Prop) : Prop := tgt r ∧ ∀ a b, inR r a b ↔ P a b
theorem tg_same {q r : Nat → Int} (h : isTg q r) (a b : Int) : inR q a b ↔ inR r a b := by
  unfold isTg at h; unfold inR; omega
theorem cl_same {q r : Nat → Int} (h : isCl q r) (a b : Int) : inR q a b ↔ inR r a b := by
  unfold isCl at h; unfold inR; omega
theorem tg_tgt {q r : Nat → Int} (h : isTg q r) (hok : ok6 q) : tgt q := by
  obtain ⟨h0, h1, h2, h3, h4, h5⟩ := h
  unfold ok6 at hok; unfold tgt ok6
  refine ⟨hok, ?_, ?_, ?_, ?_, ?_, ?_⟩ <;> omega
theorem cl_tgt {q r : Nat → Int} (h : isCl q r) (hok : ok6 q) : tgt q := by
  obtain ⟨h0, h1, h2, h3, h4, h5⟩ := h
  unfold ok6 at hok; unfold tgt ok6
  refine ⟨hok, ?_, ?_, ?_, ?_, ?_, ?_⟩ <;> omega
theorem in_ok {r : Nat → Int} {a b : Int} (h : inR r a b) : ok6 r := by unfold inR at h; unfold ok6; omega
theorem tgt_pt {r : Nat → Int} (h : tgt r) : ∃ a b, inR r a b := by
  refine ⟨r 0, r 4 - r 0, ?_⟩
  unfold tgt ok6 at h; unfold inR; omega
theorem Tt.some {r : Nat → Int} {P : Int → Int → Prop} (h : Tt r P) : ∃ a b, P a b := by
  obtain ⟨a, b, q⟩ := tgt_pt h.1
  exact ⟨a, b, (h.2 a b).mp q⟩
/-- a tight row is told by its pairs -/
theorem tgt_uniq {r q : Nat → Int} (hr : tgt r) (hq : tgt q) (h : ∀ a b, inR r a b ↔ inR q a b) : eq6 r q := by
  have key : ∀ {x y : Nat → Int}, tgt x → (∀ a b, inR x a b → inR y a b) → y 0 ≤ x 0 ∧ x 1 ≤ y 1 ∧ y 2 ≤ x 2 ∧ x 3 ≤ y 3 ∧ y 4 ≤ x 4 ∧ x 5 ≤ y 5 := by
    intro x y hx hxy
    unfold tgt ok6 at hx; unfold inR at hxy
    have p0 := hxy (x 0) (x 4 - x 0) (by omega)
    have p1 := hxy (x 1) (x 5 - x 1) (by omega)
    have p2 := hxy (x 4 - x 2) (x 2) (by omega)
    have p3 := hxy (x 5 - x 3) (x 3) (by omega)
    omega
  have h1 := key hr (fun a b => (h a b).mp)
  have h2 := key hq (fun a b => (h a b).mpr)
  unfold eq6; omega
theorem Tt.uniq {r q : Nat → Int} {P : Int → Int → Prop} (hr : Tt r P) (hq : Tt q P) : eq6 r q := tgt_uniq hr.1 hq.1 (fun a b => (hr.2 a b).trans (hq.2 a b).symm)
theorem Tt.congr {r : Nat → Int} {P P' : Int → Int → Prop} (hr : Tt r P) (h : ∀ a b, P a b ↔ P' a b) : Tt r P' := ⟨hr.1, fun a b => (hr.2 a b).trans (h a b)⟩
theorem Tt.cg {r q : Nat → Int} {P : Int → Int → Prop} (hr : Tt r P) (h : eq6 q r) : Tt q P := by
  refine ⟨?_, fun a b => ?_⟩
  · have := hr.1; unfold tgt ok6 at *; unfold eq6 at h; omega
  · rw [← hr.2 a b]; unfold inR; unfold eq6 at h; omega
/-- the sum of two tight rows, span by span, holds just the sums -/
theorem sum_ex {x y z : Nat → Int} (hx : tgt x) (hy : tgt y) (hz : z 0 = x 0 + y 0 ∧ z 1 = x 1 + y 1 ∧ z 2 = x 2 + y 2 ∧ z 3 = x 3 + y 3 ∧ z 4 = x 4 + y 4 ∧ z 5 = x 5 + y 5) (a b : Int) : inR z a b ↔ ∃ a' b', inR x a' b' ∧ inR y (a - a') (b - b') := by
  constructor
  · intro h
    unfold tgt ok6 at hx hy; unfold inR at h
    obtain ⟨LA, hLA⟩ : ∃ v, v = max (x 0) (a - y 1) := ⟨_, rfl⟩
    obtain ⟨UA, hUA⟩ : ∃ v, v = min (x 1) (a - y 0) := ⟨_, rfl⟩
    obtain ⟨LB, hLB⟩ : ∃ v, v = max (x 2) (b - y 3) := ⟨_, rfl⟩
    obtain ⟨UB, hUB⟩ : ∃ v, v = min (x 3) (b - y 2) := ⟨_, rfl⟩
    obtain ⟨LS, hLS⟩ : ∃ v, v = max (x 4) (a + b - y 5) := ⟨_, rfl⟩
    obtain ⟨US, hUS⟩ : ∃ v, v = min (x 5) (a + b - y 4) := ⟨_, rfl⟩
    have g1 : LA ≤ UA := by omega
    have g2 : LB ≤ UB := by omega
    have g3 : LS ≤ US := by omega
    have g4 : LA + LB ≤ US := by omega
    have g5 : LS ≤ UA + UB := by omega
    obtain ⟨a', ha'⟩ : ∃ v, v = max LA (LS - UB) := ⟨_, rfl⟩
    obtain ⟨b', hb'⟩ : ∃ v, v = max LB (LS - a') := ⟨_, rfl⟩
    have e1 : LA ≤ a' ∧ a' ≤ UA := by omega
    have e2 : LB ≤ b' ∧ b' ≤ UB := by omega
    have e3 : LS ≤ a' + b' ∧ a' + b' ≤ US := by omega
    refine ⟨a', b', ?_, ?_⟩
    · unfold inR; omega
    · unfold inR; omega
  · rintro ⟨a', b', h1, h2⟩
    unfold inR at *; omega
/-- the difference -/
theorem dif_ex {x y z : Nat → Int} (hx : tgt x) (hy : tgt y) (hz : z 0 = x 0 - y 1 ∧ z 1 = x 1 - y 0 ∧ z 2 = x 2 - y 3 ∧ z 3 = x 3 - y 2 ∧ z 4 = x 4 - y 5 ∧ z 5 = x 5 - y 4) (a b : Int) : inR z a b ↔ ∃ a' b', inR y a' b' ∧ inR x (a + a') (b + b') := by
  let y' : Nat → Int := fun i => match i with
    | 0 => - y 1 | 1 => - y 0 | 2 => - y 3 | 3 => - y 2 | 4 => - y 5 | _ => - y 4
  have hy' : tgt y' := by unfold tgt ok6 at *; show (- y 1 ≤ - y 0 ∧ - y 3 ≤ - y 2 ∧ - y 5 ≤ - y 4) ∧ - y 5 - - y 2 ≤ - y 1 ∧ - y 0 ≤ - y 4 - - y 3 ∧ - y 5 - - y 0 ≤ - y 3 ∧ - y 2 ≤ - y 4 - - y 1 ∧ - y 1 + - y 3 ≤ - y 5 ∧ - y 4 ≤ - y 0 + - y 2; omega
  have h := sum_ex hy' hx (z := z) (by show z 0 = - y 1 + x 0 ∧ z 1 = - y 0 + x 1 ∧ z 2 = - y 3 + x 2 ∧ z 3 = - y 2 + x 3 ∧ z 4 = - y 5 + x 4 ∧ z 5 = - y 4 + x 5; omega) a b
  rw [h]
  constructor
  · rintro ⟨a', b', h1, h2⟩
    refine ⟨-a', -b', ?_, ?_⟩
    · have h1' : - y 1 ≤ a' ∧ a' ≤ - y 0 ∧ - y 3 ≤ b' ∧ b' ≤ - y 2 ∧ - y 5 ≤ a' + b' ∧ a' + b' ≤ - y 4 := h1
      unfold inR; omega
    · unfold inR at *; omega
  · rintro ⟨a', b', h1, h2⟩
    refine ⟨-a', -b', ?_, ?_⟩
    · show - y 1 ≤ -a' ∧ -a' ≤ - y 0 ∧ - y 3 ≤ -b' ∧ -b' ≤ - y 2 ∧ - y 5 ≤ -a' + -b' ∧ -a' + -b' ≤ - y 4
      unfold inR at h1; omega
    · unfold inR at *; omega
theorem bd_at {lo hi : Nat → Int32} {b k : Nat} {B : Int} (h : bd (rwX lo hi b) B) (hk : k ≤ 2) : (-B ≤ (lo (3 * b + k)).toInt ∧ (lo (3 * b + k)).toInt ≤ B) ∧ (-B ≤ (hi (3 * b + k)).toInt ∧ (hi (3 * b + k)).toInt ≤ B) := by
  obtain ⟨h0, h1, h2, h3, h4, h5⟩ := h
  rcases (show k = 0 ∨ k = 1 ∨ k = 2 by omega) with rfl | rfl | rfl
  · exact ⟨h0, h1⟩
  · exact ⟨h2, h3⟩
  · exact ⟨h4, h5⟩
theorem up3 (lo : Nat → Int32) (a : Nat) (x y z : Int32) : (upd (upd (upd lo (3 * a + 0) x) (3 * a + 1) y) (3 * a + 2) z (3 * a + 0) = x ∧ upd (upd (upd lo (3 * a + 0) x) (3 * a + 1) y) (3 * a + 2) z (3 * a + 1) = y ∧ upd (upd (upd lo (3 * a + 0) x) (3 * a + 1) y) (3 * a + 2) z (3 * a + 2) = z) ∧ ∀ j, (j < 3 * a ∨ 3 * a + 3 ≤ j) → upd (upd (upd lo (3 * a + 0) x) (3 * a + 1) y) (3 * a + 2) z j = lo j := by
  refine ⟨⟨?_, ?_, ?_⟩, fun j hj => ?_⟩
  · rw [pk_un (by omega), pk_un (by omega), pk_us]
  · rw [pk_un (by omega), pk_us]
  · rw [pk_us]
  · rw [pk_un (by omega), pk_un (by omega), pk_un (by omega)]
/-- z is x and y, span by span -/
def sm6 (z x y : Nat → Int) : Prop := z 0 = x 0 + y 0 ∧ z 1 = x 1 + y 1 ∧ z 2 = x 2 + y 2 ∧ z 3 = x 3 + y 3 ∧ z 4 = x 4 + y 4 ∧ z 5 = x 5 + y 5
/-- z is r, cut by x less y -/
def cd6 (z r x y : Nat → Int) : Prop := z 0 = max (r 0) (x 0 - y 1) ∧ z 1 = min (r 1) (x 1 - y 0) ∧ z 2 = max (r 2) (x 2 - y 3) ∧ z 3 = min (r 3) (x 3 - y 2) ∧ z 4 = max (r 4) (x 4 - y 5) ∧ z 5 = min (r 5) (x 5 - y 4)
/-- max and min, said so that no row splits on them unasked -/
def isMx (z x y : Int) : Prop := z = max x y
def isMn (z x y : Int) : Prop := z = min x y
