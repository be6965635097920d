section KR
variable {p : Program} {l : Launch} {e : Env} {R : Room} {s : State} {m : MethodId} {args : Array Value} {below : List Frame} {meth : Method} {c : Code} {H : Heap} {locs : List Loc} {cells slots : Nat} {Q : State → Prop} {cc : ByteArray} {pc : Nat} {ls : Array Slot} {rest : List Value}
theorem c_irem (hexec : p.tables.exec = Jvm.exec) (hb : c.code = cc) {x y : Int32} {a b : Nat} (hdg : decode cc pc = .ok (.irem, 1)) (hx : x.toInt = (a : Int)) (hy : y.toInt = (b : Int)) (ha : a < 2147483648) (hb0 : 0 < b ∧ b < 2147483648)
    (k : ∀ v : Int32, v.toInt = ((a % b : Nat) : Int) → W p l e R s m args below meth c H locs cells slots Q (F0 m (pc + 1) ls (.int v :: rest))) : W p l e R s m args below meth c H locs cells slots Q (F0 m pc ls (.int y :: .int x :: rest)) := by
  have ex : x = nI a := t_inj (by rw [hx, t_nI (by omega)])
  have ey : y = nI b := t_inj (by rw [hy, t_nI (by omega)])
  have hm : a % b < b := Nat.mod_lt _ hb0.1
  refine lv_irem hexec hb hdg (fun h => ?_) (k _ ?_)
  · rw [h] at hy; have h0 : (0 : Int32).toInt = 0 := rfl; omega
  · rw [ex, ey, pk_rem (by omega) hb0.1 (by omega), t_nI (by omega)]
end KR
theorem up6 {s : Nat → Int32} (b : Nat) {j0 j1 j2 j3 j4 j5 : Nat} {x0 x1 x2 x3 x4 x5 : Int32} (h0 : j0 = b) (h1 : j1 = b + 1) (h2 : j2 = b + 2) (h3 : j3 = b + 3) (h4 : j4 = b + 4) (h5 : j5 = b + 5) :
    (upd (upd (upd (upd (upd (upd s j0 x0) j1 x1) j2 x2) j3 x3) j4 x4) j5 x5 b = x0 ∧ upd (upd (upd (upd (upd (upd s j0 x0) j1 x1) j2 x2) j3 x3) j4 x4) j5 x5 (b + 1) = x1 ∧ upd (upd (upd (upd (upd (upd s j0 x0) j1 x1) j2 x2) j3 x3) j4 x4) j5 x5 (b + 2) = x2 ∧ upd (upd (upd (upd (upd (upd s j0 x0) j1 x1) j2 x2) j3 x3) j4 x4) j5 x5 (b + 3) = x3 ∧ upd (upd (upd (upd (upd (upd s j0 x0) j1 x1) j2 x2) j3 x3) j4 x4) j5 x5 (b + 4) = x4 ∧ upd (upd (upd (upd (upd (upd s j0 x0) j1 x1) j2 x2) j3 x3) j4 x4) j5 x5 (b + 5) = x5) ∧
    ∀ j, (j < b ∨ b + 6 ≤ j) → upd (upd (upd (upd (upd (upd s j0 x0) j1 x1) j2 x2) j3 x3) j4 x4) j5 x5 j = s j := by
  subst h0; subst h1; subst h2; subst h3; subst h4; subst h5
  refine ⟨⟨?_, ?_, ?_, ?_, ?_, ?_⟩, fun j hj => ?_⟩
  · rw [pk_un (by omega), pk_un (by omega), pk_un (by omega), pk_un (by omega), pk_un (by omega), pk_us]
  · rw [pk_un (by omega), pk_un (by omega), pk_un (by omega), pk_un (by omega), pk_us]
  · rw [pk_un (by omega), pk_un (by omega), pk_un (by omega), pk_us]
  · rw [pk_un (by omega), pk_un (by omega), pk_us]
  · rw [pk_un (by omega), pk_us]
  · rw [pk_us]
  · rw [pk_un (by omega), pk_un (by omega), pk_un (by omega), pk_un (by omega), pk_un (by omega), pk_un (by omega)]
theorem rwM_keep {s s' : Nat → Int32} {t : Nat} (h : ∀ j, 6 * t ≤ j → j < 6 * t + 6 → s' j = s j) : eq6 (rwM s' t) (rwM s t) := by
  refine ⟨?_, ?_, ?_, ?_, ?_, ?_⟩
  · show (s' (6 * t + 0)).toInt = (s (6 * t + 0)).toInt; rw [h _ (by omega) (by omega)]
  · show (s' (6 * t + 1)).toInt = (s (6 * t + 1)).toInt; rw [h _ (by omega) (by omega)]
  · show (s' (6 * t + 2)).toInt = (s (6 * t + 2)).toInt; rw [h _ (by omega) (by omega)]
  · show (s' (6 * t + 3)).toInt = (s (6 * t + 3)).toInt; rw [h _ (by omega) (by omega)]
  · show (s' (6 * t + 4)).toInt = (s (6 * t + 4)).toInt; rw [h _ (by omega) (by omega)]
  · show (s' (6 * t + 5)).toInt = (s (6 * t + 5)).toInt; rw [h _ (by omega) (by omega)]
theorem bh_cg {r q : Nat → Int} {B : Int} (h : eq6 r q) (hq : bh q B) : bh r B := by unfold eq6 at h; unfold bh at *; omega
theorem bd_cg {r q : Nat → Int} {B : Int} (h : eq6 r q) (hq : bd q B) : bd r B := by unfold eq6 at h; unfold bd at *; omega
/-- behind k drawings in -/
def CI (k : Nat) (q r : Nat → Int) : Prop := (k = 0 → eq6 q r) ∧ (k ≠ 0 → ((ok6 q → tgt q ∧ ∀ a b, inR q a b ↔ inR r a b) ∧ (¬ ok6 q → ∀ a b, ¬ inR r a b)))
theorem CI_1 {k : Nat} {p q r : Nat → Int} (h : CI k p r) (hq : isCl q p) : CI (k + 1) q r := by
  refine ⟨fun h => absurd h (by omega), fun _ => ?_⟩
  by_cases hk : k = 0
  · have e := h.1 hk
    have hs : ∀ a b, inR q a b ↔ inR r a b := fun a b => (cl_same hq a b).trans (inR_cg e a b)
    exact ⟨fun ho => ⟨cl_tgt hq ho, hs⟩, fun hn a b hr => hn (in_ok ((hs a b).mpr hr))⟩
  · obtain ⟨h1, h2⟩ := h.2 hk
    by_cases hp : ok6 p
    · obtain ⟨t1, t2⟩ := h1 hp
      have e : eq6 q p := by
        obtain ⟨z0, z1, z2, z3, z4, z5⟩ := hq
        unfold tgt ok6 at t1
        have g0 : q 0 = p 0 := by omega
        have g1 : q 1 = p 1 := by omega
        have g2 : q 2 = p 2 := by omega
        have g3 : q 3 = p 3 := by omega
        have g4 : q 4 = p 4 := by omega
        have g5 : q 5 = p 5 := by omega
        exact ⟨g0, g1, g2, g3, g4, g5⟩
      refine ⟨fun _ => ⟨tgt_cg e t1, fun a b => (inR_cg e a b).trans (t2 a b)⟩, fun hn => absurd ?_ hn⟩
      unfold ok6 at *; unfold eq6 at e; omega
    · have hn := h2 hp
      have hm : ¬ ok6 q := by
        obtain ⟨z0, z1, z2, z3, z4, z5⟩ := hq
        have g0 : p 0 ≤ q 0 := by omega
        have g1 : q 1 ≤ p 1 := by omega
        have g2 : p 2 ≤ q 2 := by omega
        have g3 : q 3 ≤ p 3 := by omega
        have g4 : p 4 ≤ q 4 := by omega
        have g5 : q 5 ≤ p 5 := by omega
        unfold ok6 at *; omega
      exact ⟨fun ho => absurd ho hm, fun _ => hn⟩
def bk5 : Nat → Int
  | 0 => 2000000
  | k + 1 => 5 * bk5 k
theorem bk5_le {k : Nat} (h : k < 4) : 0 ≤ bk5 k ∧ bk5 k ≤ 250000000 := by
  rcases (show k = 0 ∨ k = 1 ∨ k = 2 ∨ k = 3 by omega) with rfl | rfl | rfl | rfl <;> decide
theorem mx_bd {z x y a b : Int} (h : isMx z x y) (hx : a ≤ x ∧ x ≤ b) (hy : a ≤ y ∧ y ≤ b) : a ≤ z ∧ z ≤ b := by unfold isMx at h; omega
theorem mn_bd {z x y a b : Int} (h : isMn z x y) (hx : a ≤ x ∧ x ≤ b) (hy : a ≤ y ∧ y ≤ b) : a ≤ z ∧ z ≤ b := by unfold isMn at h; omega
/-- the model's moves, one door more -/
theorem mv_up {m : Nat → Int32} {r r' : Nat → Int} {k : Nat} {x y : Int32} {kd l h : Int} (hk : kd = (k : Int)) (hk2 : k ≤ 2) (hm : ∀ i, i < 6 → (m i).toInt = r i) (hx : x.toInt = (m (2 * k)).toInt + l) (hy : y.toInt = (m (2 * k + 1)).toInt + h) (hr : mv6 r' r kd l h) : ∀ i, i < 6 → (upd (upd m (2 * k) x) (2 * k + 1) y i).toInt = r' i := by
  intro i hi
  have m0 := hm 0 (by omega); have m1 := hm 1 (by omega); have m2 := hm 2 (by omega); have m3 := hm 3 (by omega); have m4 := hm 4 (by omega); have m5 := hm 5 (by omega)
  unfold mv6 at hr
  rcases (show k = 0 ∨ k = 1 ∨ k = 2 by omega) with rfl | rfl | rfl <;> rcases (show i = 0 ∨ i = 1 ∨ i = 2 ∨ i = 3 ∨ i = 4 ∨ i = 5 by omega) with rfl | rfl | rfl | rfl | rfl | rfl <;> simp only [upd] <;> simp <;> simp at hx hy <;> omega
/-- a check's cut in the model's row -/
theorem cutM {s : Nat → Int32} {t w : Nat} {x y : Int32} {l h : Int} (hw : w ≤ 2) (hx : isMx x.toInt (s (6 * t + 2 * w)).toInt l) (hy : isMn y.toInt (s (6 * t + 2 * w + 1)).toInt h) :
    (∀ p q, inR (rwM (upd (upd s (6 * t + 2 * w) x) (6 * t + 2 * w + 1) y) t) p q ↔ inR (rwM s t) p q ∧ ((w = 0 ∧ l ≤ p ∧ p ≤ h) ∨ (w = 1 ∧ l ≤ q ∧ q ≤ h) ∨ (w = 2 ∧ l ≤ p + q ∧ p + q ≤ h))) ∧
    ∀ B, bd (rwM s t) B → l ≤ B → -B ≤ h → bd (rwM (upd (upd s (6 * t + 2 * w) x) (6 * t + 2 * w + 1) y) t) B := by
  have hx' : x.toInt = max _ _ := hx
  have hy' : y.toInt = min _ _ := hy
  have g : ∀ i, i < 6 → rwM (upd (upd s (6 * t + 2 * w) x) (6 * t + 2 * w + 1) y) t i = (if i = 2 * w + 1 then y.toInt else if i = 2 * w then x.toInt else rwM s t i) := by
    intro i hi
    show (upd (upd s (6 * t + 2 * w) x) (6 * t + 2 * w + 1) y (6 * t + i)).toInt = _
    by_cases h1 : i = 2 * w + 1
    · rw [if_pos h1, show 6 * t + i = 6 * t + 2 * w + 1 by omega, pk_us]
    · rw [if_neg h1, pk_un (by omega)]
      by_cases h2 : i = 2 * w
      · rw [if_pos h2, show 6 * t + i = 6 * t + 2 * w by omega, pk_us]
      · rw [if_neg h2, pk_un (by omega)]; rfl
  have ex : (s (6 * t + 2 * w)).toInt = rwM s t (2 * w) := rfl
  have ey : (s (6 * t + 2 * w + 1)).toInt = rwM s t (2 * w + 1) := rfl
  rw [ex] at hx'; rw [ey] at hy'
  have g0 := g 0 (by omega); have g1 := g 1 (by omega); have g2 := g 2 (by omega); have g3 := g 3 (by omega); have g4 := g 4 (by omega); have g5 := g 5 (by omega)
  generalize rwM (upd (upd s (6 * t + 2 * w) x) (6 * t + 2 * w + 1) y) t = z at *
  generalize rwM s t = r at *
  unfold inR bd
  rcases (show w = 0 ∨ w = 1 ∨ w = 2 by omega) with rfl | rfl | rfl
  · simp at g0 g1 g2 g3 g4 g5 hx' hy'
    rw [g0, g1, g2, g3, g4, g5]
    refine ⟨fun p q => by omega, fun B hB hl hh => by omega⟩
  · simp at g0 g1 g2 g3 g4 g5 hx' hy'
    rw [g0, g1, g2, g3, g4, g5]
    refine ⟨fun p q => by omega, fun B hB hl hh => by omega⟩
  · simp at g0 g1 g2 g3 g4 g5 hx' hy'
    rw [g0, g1, g2, g3, g4, g5]
    refine ⟨fun p q => by omega, fun B hB hl hh => by omega⟩
theorem Trv_some {f : Nat → Nat → Int32} {Tn Dn Cn : Nat} (h : ∃ a b, Fw f Dn Cn 0 Tn a b) : ∀ n, n ≤ Tn → ∃ a b, Trv f Tn Dn Cn n a b := by
  intro n
  induction n with
  | zero => intro _; exact h
  | succ n ih =>
    intro hn
    obtain ⟨a, b, hab⟩ := ih (by omega)
    have hF := Trv_Fw hab
    rw [show Tn - n = (Tn - (n + 1)) + 1 by omega] at hF
    obtain ⟨⟨a', b', h1, h2⟩, -⟩ := hF
    refine ⟨a', b', h1, a - a', b - b', h2, ?_⟩
    have g1 : a' + (a - a') = a := by omega
    have g2 : b' + (b - b') = b := by omega
    rw [g1, g2]; exact hab
theorem Bk_0 {f : Nat → Nat → Int32} {Tn Dn Cn : Nat} {r : Nat → Int} (h : r 0 = 0 ∧ r 1 = 1000000 ∧ r 2 = 0 ∧ r 3 = 1000000 ∧ r 4 = 0 ∧ r 5 = 1000000) (a b : Int) : (inR r a b ∧ alw f Tn Cn a b) ↔ Bkv f Tn Dn Cn 0 a b := by
  show _ ↔ (a ≤ 1000000 ∧ b ≤ 1000000 ∧ a + b ≤ 1000000) ∧ alw f Tn Cn a b
  constructor
  · rintro ⟨h1, h2⟩
    unfold inR at h1
    exact ⟨by omega, h2⟩
  · rintro ⟨h1, h2⟩
    have h3 := alw_0 _ h2
    refine ⟨?_, h2⟩
    unfold inR; omega
theorem Bk_1 {f : Nat → Nat → Int32} {Tn Dn Cn k : Nat} (hI : Inv f Tn Dn Cn) (hk : k + 1 ≤ Tn) {y c z : Nat → Int} (hy : Tt y (Bkv f Tn Dn Cn (Tn - (k + 1)))) (hc : eq6 c (crow (mvs f k 0 (-1) Dn))) (hz : eq6 z (dfr y c)) (a b : Int) : (inR z a b ∧ alw f k Cn a b) ↔ Bkv f Tn Dn Cn (Tn - k) a b := by
  have hct := tgt_cg hc (crow_bd (mr := 0) (but := -1) hI (show k < Tn by omega) (by omega) (by omega) Dn (Nat.le_refl _)).1
  have e : Tn - k = (Tn - (k + 1)) + 1 := by omega
  have e2 : Tn - (Tn - (k + 1) + 1) = k := by omega
  rw [inR_cg hz a b, dif_ex (z := dfr y c) hy.1 hct ⟨rfl, rfl, rfl, rfl, rfl, rfl⟩ a b, e]
  show _ ↔ (∃ a' b', inR (crow (mvs f (Tn - (Tn - (k + 1) + 1)) 0 (-1) Dn)) a' b' ∧ Bkv f Tn Dn Cn (Tn - (k + 1)) (a + a') (b + b')) ∧ alw f (Tn - (Tn - (k + 1) + 1)) Cn a b
  rw [e2]
  constructor
  · rintro ⟨⟨a', b', h2, h3⟩, h4⟩
    exact ⟨⟨a', b', (inR_cg hc _ _).mp h2, (hy.2 _ _).mp h3⟩, h4⟩
  · rintro ⟨⟨a', b', h2, h3⟩, h4⟩
    exact ⟨⟨a', b', (inR_cg hc _ _).mpr h2, (hy.2 _ _).mpr h3⟩, h4⟩
/-- what work() leaves -/
def WK (f : Nat → Nat → Int32) (Tn Dn Cn : Nat) (r : Int) (ah bk bo : Nat → Int32) : Prop :=
  (r = 0 ∧ noT f Tn Dn Cn 0) ∨ (r = 1 ∧ ∀ j, j ≤ Tn → (Tt (rwM ah j) (Fw f Dn Cn 0 j) ∧ bh (rwM ah j) 50000) ∧ (Tt (rwM bk j) (Bkv f Tn Dn Cn (Tn - j)) ∧ bh (rwM bk j) 1100000) ∧ Tt (rwM bo j) (Trv f Tn Dn Cn (Tn - j)))
