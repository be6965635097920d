/-! THROUGH: the row cut to the truths and the row that looks back give the same ends -/
theorem sm_tgt {z x y : Nat → Int} (hx : tgt x) (hy : tgt y) (h : sm6 z x y) : tgt z := by
  unfold tgt ok6 at *; unfold sm6 at h; omega
/-- all doors: the others and this one -/
theorem mvs_one {f : Nat → Nat → Int32} {t d : Nat} {mr : Int} (hk : 0 ≤ (f 0 d).toInt ∧ (f 0 d).toInt ≤ 2) (ho : ∀ d', 0 ≤ (f 0 d').toInt ∧ (f 0 d').toInt ≤ 2 ∨ True) : ∀ n, n ≤ d → ∀ i, mvs f t mr (-1) n i = mvs f t mr (d : Int) n i := by
  intro n
  induction n with
  | zero => intro _ i; rfl
  | succ n ih =>
    intro hn i
    show mvs f t mr (-1) n i + _ = mvs f t mr (d : Int) n i + _
    rw [ih (by omega) i, if_neg (show ¬ ((n : Int) = -1) by omega), if_neg (show ¬ ((n : Int) = (d : Int)) by omega)]
theorem mvs_all {f : Nat → Nat → Int32} {t d : Nat} {mr : Int} (hk : 0 ≤ (f 0 d).toInt ∧ (f 0 d).toInt ≤ 2) : ∀ n, d < n → mv6 (mvs f t mr (-1) n) (mvs f t mr (d : Int) n) (f 0 d).toInt (nLo f d t mr) (nHi f d t mr) := by
  intro n
  induction n with
  | zero => intro h; exact absurd h (by omega)
  | succ n ih =>
    intro hn
    rcases (show d < n ∨ d = n by omega) with h | rfl
    · have e1 : ∀ i : Nat, mvs f t mr (-1) (n + 1) i = mvs f t mr (-1) n i + (if (i : Int) = 2 * (f 0 n).toInt then nLo f n t mr else if (i : Int) = 2 * (f 0 n).toInt + 1 then nHi f n t mr else 0) := by
        intro i
        show mvs f t mr (-1) n i + _ = _
        rw [if_neg (by omega)]
      have e2 : ∀ i : Nat, mvs f t mr (d : Int) (n + 1) i = mvs f t mr (d : Int) n i + (if (i : Int) = 2 * (f 0 n).toInt then nLo f n t mr else if (i : Int) = 2 * (f 0 n).toInt + 1 then nHi f n t mr else 0) := by
        intro i
        show mvs f t mr (d : Int) n i + _ = _
        rw [if_neg (by omega)]
      have q := ih h
      have a0 := e1 0; have a1 := e1 1; have a2 := e1 2; have a3 := e1 3; have a4 := e1 4; have a5 := e1 5
      have b0 := e2 0; have b1 := e2 1; have b2 := e2 2; have b3 := e2 3; have b4 := e2 4; have b5 := e2 5
      unfold mv6 at q ⊢
      rcases q with q | q | q
      · left; omega
      · right; left; omega
      · right; right; omega
    · have q := mvs_st (f := f) (t := t) (d := d) (mr := mr) (but := -1) (by omega) hk
      have e : ∀ i, mvs f t mr (d : Int) (d + 1) i = mvs f t mr (-1) d i := fun i => by rw [mvs_but rfl, mvs_one hk (fun _ => Or.inr trivial) d (Nat.le_refl _)]
      have b0 := e 0; have b1 := e 1; have b2 := e 2; have b3 := e 3; have b4 := e 4; have b5 := e 5
      unfold mv6 at q ⊢
      omega
/-- one door's own change, as a row -/
def seg (kd l h : Int) : Nat → Int := fun i => if kd = 0 then (match i with | 0 => l | 1 => h | 2 => 0 | 3 => 0 | 4 => l | _ => h) else if kd = 1 then (match i with | 0 => 0 | 1 => 0 | 2 => l | 3 => h | 4 => l | _ => h) else (match i with | 0 => -h | 1 => -l | 2 => l | 3 => h | 4 => 0 | _ => 0)
theorem seg_e (kd l h : Int) (hk : 0 ≤ kd ∧ kd ≤ 2) : (kd = 0 ∧ seg kd l h 0 = l ∧ seg kd l h 1 = h ∧ seg kd l h 2 = 0 ∧ seg kd l h 3 = 0 ∧ seg kd l h 4 = l ∧ seg kd l h 5 = h) ∨ (kd = 1 ∧ seg kd l h 0 = 0 ∧ seg kd l h 1 = 0 ∧ seg kd l h 2 = l ∧ seg kd l h 3 = h ∧ seg kd l h 4 = l ∧ seg kd l h 5 = h) ∨ (kd = 2 ∧ seg kd l h 0 = -h ∧ seg kd l h 1 = -l ∧ seg kd l h 2 = l ∧ seg kd l h 3 = h ∧ seg kd l h 4 = 0 ∧ seg kd l h 5 = 0) := by
  rcases (show kd = 0 ∨ kd = 1 ∨ kd = 2 by omega) with rfl | rfl | rfl
  · exact Or.inl ⟨rfl, rfl, rfl, rfl, rfl, rfl, rfl⟩
  · exact Or.inr (Or.inl ⟨rfl, rfl, rfl, rfl, rfl, rfl, rfl⟩)
  · exact Or.inr (Or.inr ⟨rfl, rfl, rfl, rfl, rfl, rfl, rfl⟩)
/-- the pair that a door's change v is -/
def dv (kd v : Int) : Int × Int := if kd = 0 then (v, 0) else if kd = 1 then (0, v) else (-v, v)
theorem dv_e (kd v : Int) (hk : 0 ≤ kd ∧ kd ≤ 2) : (kd = 0 ∧ (dv kd v).1 = v ∧ (dv kd v).2 = 0) ∨ (kd = 1 ∧ (dv kd v).1 = 0 ∧ (dv kd v).2 = v) ∨ (kd = 2 ∧ (dv kd v).1 = -v ∧ (dv kd v).2 = v) := by
  rcases (show kd = 0 ∨ kd = 1 ∨ kd = 2 by omega) with rfl | rfl | rfl
  · exact Or.inl ⟨rfl, rfl, rfl⟩
  · exact Or.inr (Or.inl ⟨rfl, rfl, rfl⟩)
  · exact Or.inr (Or.inr ⟨rfl, rfl, rfl⟩)
theorem seg_in {kd l h a b : Int} (hk : 0 ≤ kd ∧ kd ≤ 2) : inR (seg kd l h) a b ↔ ∃ v, l ≤ v ∧ v ≤ h ∧ (dv kd v).1 = a ∧ (dv kd v).2 = b := by
  have e := seg_e kd l h hk
  unfold inR
  constructor
  · intro q
    rcases e with e | e | e
    · exact ⟨a, by omega, by omega, by rcases dv_e kd a hk with w | w | w <;> omega, by rcases dv_e kd a hk with w | w | w <;> omega⟩
    · exact ⟨b, by omega, by omega, by rcases dv_e kd b hk with w | w | w <;> omega, by rcases dv_e kd b hk with w | w | w <;> omega⟩
    · exact ⟨b, by omega, by omega, by rcases dv_e kd b hk with w | w | w <;> omega, by rcases dv_e kd b hk with w | w | w <;> omega⟩
  · rintro ⟨v, h1, h2, h3, h4⟩
    have w := dv_e kd v hk
    omega
theorem seg_tgt {kd l h : Int} (hk : 0 ≤ kd ∧ kd ≤ 2) (hl : l ≤ h) : tgt (seg kd l h) := by
  have e := seg_e kd l h hk
  unfold tgt ok6
  rcases e with e | e | e <;> omega
theorem crow_seg {f : Nat → Nat → Int32} {Dn t d : Nat} {mr : Int} (hk : 0 ≤ (f 0 d).toInt ∧ (f 0 d).toInt ≤ 2) (hd : d < Dn) : sm6 (crow (mvs f t mr (-1) Dn)) (crow (mvs f t mr (d : Int) Dn)) (seg (f 0 d).toInt (nLo f d t mr) (nHi f d t mr)) := by
  have q := mvs_all (t := t) (mr := mr) hk Dn hd
  have a := crow_e (mvs f t mr (-1) Dn); have b := crow_e (mvs f t mr (d : Int) Dn)
  have e := seg_e (f 0 d).toInt (nLo f d t mr) (nHi f d t mr) hk
  unfold mv6 at q; unfold sm6
  rcases e with e | e | e
  · rcases q with q | q | q
    · omega
    · omega
    · omega
  · rcases q with q | q | q
    · omega
    · omega
    · omega
  · rcases q with q | q | q
    · omega
    · omega
    · omega
/-- the changes that this door may have: by the row ahead x, the others c, the row behind y -/
def Fdc (kd nl nh : Int) (y x c : Nat → Int) (v : Int) : Prop := nl ≤ v ∧ v ≤ nh ∧ inR (dfr y (fun i => x i + c i)) (dv kd v).1 (dv kd v).2
theorem Fdc_ex {kd nl nh : Int} {y x c : Nat → Int} (hy : tgt y) (hx : tgt x) (hc : tgt c) (v : Int) : Fdc kd nl nh y x c v ↔ nl ≤ v ∧ v ≤ nh ∧ ∃ a b a' b', inR x a b ∧ inR c a' b' ∧ inR y ((dv kd v).1 + (a + a')) ((dv kd v).2 + (b + b')) := by
  have hz : tgt (fun i => x i + c i) := sm_tgt hx hc ⟨rfl, rfl, rfl, rfl, rfl, rfl⟩
  unfold Fdc
  rw [dif_ex (z := dfr y (fun i => x i + c i)) hy hz ⟨rfl, rfl, rfl, rfl, rfl, rfl⟩]
  constructor
  · rintro ⟨h1, h2, p, q, h3, h4⟩
    obtain ⟨a, b, g1, g2⟩ := (sum_ex hx hc (z := fun i => x i + c i) ⟨rfl, rfl, rfl, rfl, rfl, rfl⟩ p q).mp h3
    exact ⟨h1, h2, a, b, p - a, q - b, g1, g2, by rw [show a + (p - a) = p by omega, show b + (q - b) = q by omega]; exact h4⟩
  · rintro ⟨h1, h2, a, b, a', b', g1, g2, g3⟩
    exact ⟨h1, h2, a + a', b + b', (sum_ex hx hc (z := fun i => x i + c i) ⟨rfl, rfl, rfl, rfl, rfl, rfl⟩ _ _).mpr ⟨a, b, g1, by rw [show a + a' - a = a' by omega, show b + b' - b = b' by omega]; exact g2⟩, g3⟩
theorem Fdc_min {kd nl nh : Int} {y x c : Nat → Int} (hk : 0 ≤ kd ∧ kd ≤ 2) {v0 : Int} (h0 : Fdc kd nl nh y x c v0) : (Fdc kd nl nh y x c (thL kd nl y x c) ∧ ∀ v, Fdc kd nl nh y x c v → thL kd nl y x c ≤ v) ∧ (Fdc kd nl nh y x c (thH kd nh y x c) ∧ ∀ v, Fdc kd nl nh y x c v → v ≤ thH kd nh y x c) := by
  have ex : ∀ v, Fdc kd nl nh y x c v ↔ nl ≤ v ∧ v ≤ nh ∧ (y 0 - (x 1 + c 1) ≤ (dv kd v).1 ∧ (dv kd v).1 ≤ y 1 - (x 0 + c 0) ∧ y 2 - (x 3 + c 3) ≤ (dv kd v).2 ∧ (dv kd v).2 ≤ y 3 - (x 2 + c 2) ∧ y 4 - (x 5 + c 5) ≤ (dv kd v).1 + (dv kd v).2 ∧ (dv kd v).1 + (dv kd v).2 ≤ y 5 - (x 4 + c 4)) := fun v => Iff.rfl
  rw [ex] at h0
  have w0 := dv_e kd v0 hk
  have wL := dv_e kd (thL kd nl y x c) hk
  have wH := dv_e kd (thH kd nh y x c) hk
  rcases (show kd = 0 ∨ kd = 1 ∨ kd = 2 by omega) with rfl | rfl | rfl
  · have eL : thL 0 nl y x c = max nl (max (y 0 - x 1 - c 1) (y 4 - x 5 - c 5)) := by unfold thL; rw [if_pos rfl]
    have eH : thH 0 nh y x c = min nh (min (y 1 - x 0 - c 0) (y 5 - x 4 - c 4)) := by unfold thH; rw [if_pos rfl]
    generalize thL 0 nl y x c = L at *
    generalize thH 0 nh y x c = U at *
    refine ⟨⟨(ex _).mpr (by omega), fun v hv => ?_⟩, (ex _).mpr (by omega), fun v hv => ?_⟩
    · rw [ex] at hv; have w := dv_e 0 v hk; omega
    · rw [ex] at hv; have w := dv_e 0 v hk; omega
  · have eL : thL 1 nl y x c = max nl (max (y 2 - x 3 - c 3) (y 4 - x 5 - c 5)) := by unfold thL; rw [if_neg (by decide), if_pos rfl]
    have eH : thH 1 nh y x c = min nh (min (y 3 - x 2 - c 2) (y 5 - x 4 - c 4)) := by unfold thH; rw [if_neg (by decide), if_pos rfl]
    generalize thL 1 nl y x c = L at *
    generalize thH 1 nh y x c = U at *
    refine ⟨⟨(ex _).mpr (by omega), fun v hv => ?_⟩, (ex _).mpr (by omega), fun v hv => ?_⟩
    · rw [ex] at hv; have w := dv_e 1 v hk; omega
    · rw [ex] at hv; have w := dv_e 1 v hk; omega
  · have eL : thL 2 nl y x c = max nl (max (y 2 - x 3 - c 3) (-(y 1 - x 0 - c 0))) := by unfold thL; rw [if_neg (by decide), if_neg (by decide)]
    have eH : thH 2 nh y x c = min nh (min (y 3 - x 2 - c 2) (-(y 0 - x 1 - c 1))) := by unfold thH; rw [if_neg (by decide), if_neg (by decide)]
    generalize thL 2 nl y x c = L at *
    generalize thH 2 nh y x c = U at *
    refine ⟨⟨(ex _).mpr (by omega), fun v hv => ?_⟩, (ex _).mpr (by omega), fun v hv => ?_⟩
    · rw [ex] at hv; have w := dv_e 2 v hk; omega
    · rw [ex] at hv; have w := dv_e 2 v hk; omega
/-- a bound on what can be inside at the end -/
theorem Fw_bd {f : Nat → Nat → Int32} {Tn Dn Cn : Nat} (hI : Inv f Tn Dn Cn) : ∀ t, t ≤ Tn → ∀ a b, Fw f Dn Cn 0 t a b → a + b ≤ 20000 + 360 * (t : Int)
  | 0, _, a, b, h => by
    obtain ⟨h1, -⟩ := h
    have s0 := hI.2.2.2.1 0 (by omega); have s1 := hI.2.2.2.1 1 (by omega)
    omega
  | t + 1, ht, a, b, h => by
    obtain ⟨⟨a', b', h1, h2⟩, -⟩ := h
    have h3 := Fw_bd hI t (by omega) a' b' h1
    have h4 := (crow_bd (mr := 0) (but := -1) hI (show t < Tn by omega) (by omega) (by omega) Dn (Nat.le_refl _)).2
    unfold inR at h2; unfold bd at h4
    omega
theorem TH_uniq {f : Nat → Nat → Int32} {Tn Dn Cn : Nat} {dr tk ms th th' r r' : Int} (hI : Inv f Tn Dn Cn) (h : TH (Trv f Tn Dn Cn) f Tn Dn Cn dr tk ms th r) (h' : TH (Bkv f Tn Dn Cn) f Tn Dn Cn dr tk ms th' r') : th = th' ∧ (th = 0 → r = r') := by
  rcases h with ⟨h1, h2⟩ | ⟨h1, h2, h3⟩ | ⟨h1, h2, h3, x, y, c, hx, hy, hc, hr⟩
  · rcases h' with ⟨g1, g2⟩ | ⟨g1, g2, g3⟩ | ⟨g1, g2, g3, x', y', c', gx, gy, gc, gr⟩
    · exact ⟨by rw [h2, g2], fun h => by omega⟩
    · exact absurd g1 h1
    · exact absurd g1 h1
  · rcases h' with ⟨g1, g2⟩ | ⟨g1, g2, g3⟩ | ⟨g1, g2, g3, x', y', c', gx, gy, gc, gr⟩
    · exact absurd h1 g1
    · exact ⟨by rw [h3, g3], fun h => by omega⟩
    · exact absurd h2 g2
  · rcases h' with ⟨g1, g2⟩ | ⟨g1, g2, g3⟩ | ⟨g1, g2, g3, x', y', c', gx, gy, gc, gr⟩
    · exact absurd h1 g1
    · exact absurd g2 h2
    · refine ⟨by rw [h3, g3], fun _ => ?_⟩
      obtain ⟨d, hd⟩ : ∃ d : Nat, dr = (d : Int) := ⟨dr.toNat, by omega⟩
      obtain ⟨t, ht⟩ : ∃ t : Nat, tk = (t : Int) := ⟨tk.toNat, by omega⟩
      subst hd; subst ht
      rw [Int.toNat_natCast, Int.toNat_natCast] at hr gr
      rw [Int.toNat_natCast] at hx hy hc gx gy gc
      have hdn : d < Dn := by omega
      have htn : t < Tn := by omega
      have hk := (hI.2.1 d hdn).1
      have hn := n_bd (mr := 0) hI hdn htn (by omega) (by omega)
      have ct := (crow_bd (mr := 0) (but := (d : Int)) hI htn (by omega) (by omega) Dn (Nat.le_refl _)).1
      have hct : tgt c := tgt_cg hc ct
      have gct : tgt c' := tgt_cg gc ct
      have hsg := crow_seg (t := t) (mr := 0) hk hdn
      have sgt : tgt (seg (f 0 d).toInt (nLo f d t 0) (nHi f d t 0)) := seg_tgt hk hn.2.1
      have hall := sum_ex ct sgt hsg
      have hFb : ∀ a b, Fw f Dn Cn 0 Tn a b → a + b ≤ 1000000 := fun a b h => by have := Fw_bd hI Tn (Nat.le_refl _) a b h; have := hI.1; omega
      have hTe := Trv_eq hFb (Tn - (t + 1)) (by omega)
      rw [show Tn - (Tn - (t + 1)) = t + 1 by omega] at hTe
      -- a change that keeps to the doors leads to what lies ahead
      have step : ∀ a b a' b' v, Fw f Dn Cn 0 t a b → inR (crow (mvs f t 0 (d : Int) Dn)) a' b' → nLo f d t 0 ≤ v → v ≤ nHi f d t 0 → alw f (t + 1) Cn ((dv (f 0 d).toInt v).1 + (a + a')) ((dv (f 0 d).toInt v).2 + (b + b')) → Fw f Dn Cn 0 (t + 1) ((dv (f 0 d).toInt v).1 + (a + a')) ((dv (f 0 d).toInt v).2 + (b + b')) := by
        intro a b a' b' v q1 q2 q3 q4 q5
        refine ⟨⟨a, b, q1, (hall _ _).mpr ⟨a', b', q2, (seg_in hk).mpr ⟨v, q3, q4, by omega, by omega⟩⟩⟩, q5⟩
      have iff1 : ∀ v, Fdc (f 0 d).toInt (nLo f d t 0) (nHi f d t 0) y x c v ↔ Fdc (f 0 d).toInt (nLo f d t 0) (nHi f d t 0) y' x' c' v := by
        intro v
        rw [Fdc_ex hy.1 hx.1 hct, Fdc_ex gy.1 gx.1 gct]
        constructor
        · rintro ⟨q1, q2, a, b, a', b', w1, w2, w3⟩
          refine ⟨q1, q2, a, b, a', b', (gx.2 _ _).mpr ((hx.2 _ _).mp w1), (inR_cg gc _ _).mpr ((inR_cg hc _ _).mp w2), (gy.2 _ _).mpr ?_⟩
          exact ((hTe _ _).mp ((hy.2 _ _).mp w3)).2
        · rintro ⟨q1, q2, a, b, a', b', w1, w2, w3⟩
          refine ⟨q1, q2, a, b, a', b', (hx.2 _ _).mpr ((gx.2 _ _).mp w1), (inR_cg hc _ _).mpr ((inR_cg gc _ _).mp w2), (hy.2 _ _).mpr ((hTe _ _).mpr ⟨?_, (gy.2 _ _).mp w3⟩)⟩
          have al := Bkv_alw ((gy.2 _ _).mp w3)
          rw [show Tn - (Tn - (t + 1)) = t + 1 by omega] at al
          exact step a b a' b' v ((gx.2 _ _).mp w1) ((inR_cg gc _ _).mp w2) q1 q2 al
      obtain ⟨v0, hv0⟩ : ∃ v, Fdc (f 0 d).toInt (nLo f d t 0) (nHi f d t 0) y x c v := by
        obtain ⟨a, b, q⟩ := hy.some
        obtain ⟨⟨a1, b1, q1, q2⟩, -⟩ := ((hTe a b).mp q).1
        obtain ⟨a2, b2, q3, q4⟩ := (hall _ _).mp q2
        obtain ⟨v, q5, q6, q7, q8⟩ := (seg_in hk).mp q4
        refine ⟨v, (Fdc_ex hy.1 hx.1 hct v).mpr ⟨q5, q6, a1, b1, a2, b2, (hx.2 _ _).mpr q1, (inR_cg hc _ _).mpr q3, ?_⟩⟩
        rw [show (dv (f 0 d).toInt v).1 + (a1 + a2) = a by omega, show (dv (f 0 d).toInt v).2 + (b1 + b2) = b by omega]
        exact (hy.2 _ _).mpr q
      have m1 := Fdc_min hk hv0
      have m2 := Fdc_min hk ((iff1 v0).mp hv0)
      rw [hr, gr]
      by_cases hms : ms = 0
      · rw [if_pos hms, if_pos hms]
        have e1 := m1.1.2 _ ((iff1 _).mpr m2.1.1)
        have e2 := m2.1.2 _ ((iff1 _).mp m1.1.1)
        omega
      · rw [if_neg hms, if_neg hms]
        have e1 := m1.2.2 _ ((iff1 _).mpr m2.2.1)
        have e2 := m2.2.2 _ ((iff1 _).mp m1.2.1)
        omega
