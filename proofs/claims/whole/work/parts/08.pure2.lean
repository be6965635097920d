/-! The bench's own mathematics: what may pass, the change of a TICK, the sets of pairs. -/
def Inv (f : Nat → Nat → Int32) (Tn Dn Cn : Nat) : Prop :=
  (1 ≤ Tn ∧ Tn ≤ 60 ∧ Dn ≤ 6 ∧ Cn ≤ 20) ∧
  (∀ d, d < Dn → (0 ≤ (f 0 d).toInt ∧ (f 0 d).toInt ≤ 2) ∧ (0 ≤ (f 1 d).toInt ∧ (f 1 d).toInt ≤ 5) ∧ (0 ≤ (f 2 d).toInt ∧ (f 2 d).toInt ≤ 5) ∧ (0 ≤ (f 3 d).toInt ∧ (f 3 d).toInt ≤ 20)) ∧
  (∀ j, j < 360 → ((f 4 j).toInt = -1 ∧ (f 5 j).toInt = -1) ∨ ((0 ≤ (f 4 j).toInt ∧ (f 4 j).toInt ≤ 20) ∧ (0 ≤ (f 5 j).toInt ∧ (f 5 j).toInt ≤ 20))) ∧
  (∀ h, h < 2 → 0 ≤ (f 6 h).toInt ∧ (f 6 h).toInt ≤ (f 7 h).toInt ∧ (f 7 h).toInt ≤ 9999) ∧
  (∀ q, q < Cn → (0 ≤ (f 8 q).toInt ∧ (f 8 q).toInt ≤ 60) ∧ (0 ≤ (f 9 q).toInt ∧ (f 9 q).toInt ≤ 2) ∧ 0 ≤ (f 10 q).toInt ∧ (f 10 q).toInt ≤ (f 11 q).toInt ∧ (f 11 q).toInt ≤ 9999)
def lsP (db mr tl : Int) : Int := if tl < 0 then 0 else max 0 (tl - db - mr)
def msP (cp ms mr tl : Int) : Int := if tl < 0 then cp else tl + ms + mr
def nLo (f : Nat → Nat → Int32) (d t : Nat) (mr : Int) : Int := lsP (f 2 d).toInt mr (f 4 (60 * d + t)).toInt - msP (f 3 d).toInt (f 1 d).toInt mr (f 5 (60 * d + t)).toInt
def nHi (f : Nat → Nat → Int32) (d t : Nat) (mr : Int) : Int := msP (f 3 d).toInt (f 1 d).toInt mr (f 4 (60 * d + t)).toInt - lsP (f 2 d).toInt mr (f 5 (60 * d + t)).toInt
theorem n_bd {f : Nat → Nat → Int32} {Tn Dn Cn d t : Nat} {mr : Int} (hI : Inv f Tn Dn Cn) (hd : d < Dn) (ht : t < Tn) (h0 : 0 ≤ mr) (h5 : mr ≤ 5) : -30 ≤ nLo f d t mr ∧ nLo f d t mr ≤ nHi f d t mr ∧ nHi f d t mr ≤ 30 := by
  obtain ⟨hb, hdo, hto, -⟩ := hI
  have h1 := hdo d hd
  have h2 := hto (60 * d + t) (by omega)
  unfold nLo nHi lsP msP
  by_cases g4 : (f 4 (60 * d + t)).toInt < 0
  · by_cases g5 : (f 5 (60 * d + t)).toInt < 0
    · simp only [if_pos g4, if_pos g5]; omega
    · exfalso; omega
  · by_cases g5 : (f 5 (60 * d + t)).toInt < 0
    · exfalso; omega
    · simp only [if_neg g4, if_neg g5]; omega
/-- what the doors 0 .. d - 1 (but one) can move at a tick: outside to A, outside to B, A to B; least and most of each -/
def mvs (f : Nat → Nat → Int32) (t : Nat) (mr but : Int) : Nat → Nat → Int
  | 0 => fun _ => 0
  | d + 1 => fun i => mvs f t mr but d i + (if (d : Int) = but then 0 else if (i : Int) = 2 * (f 0 d).toInt then nLo f d t mr else if (i : Int) = 2 * (f 0 d).toInt + 1 then nHi f d t mr else 0)
def crow (m : Nat → Int) : Nat → Int := fun i => match i with
  | 0 => m 0 - m 5
  | 1 => m 1 - m 4
  | 2 => m 2 + m 4
  | 3 => m 3 + m 5
  | 4 => m 0 + m 2
  | _ => m 1 + m 3
/-- one door more -/
def ad6 (z r : Nat → Int) (k l m : Int) : Prop :=
  (k = 0 ∧ z 0 = r 0 + l ∧ z 1 = r 1 + m ∧ z 2 = r 2 ∧ z 3 = r 3 ∧ z 4 = r 4 + l ∧ z 5 = r 5 + m) ∨
  (k = 1 ∧ z 0 = r 0 ∧ z 1 = r 1 ∧ z 2 = r 2 + l ∧ z 3 = r 3 + m ∧ z 4 = r 4 + l ∧ z 5 = r 5 + m) ∨
  (k = 2 ∧ z 0 = r 0 - m ∧ z 1 = r 1 - l ∧ z 2 = r 2 + l ∧ z 3 = r 3 + m ∧ z 4 = r 4 ∧ z 5 = r 5)
def mv6 (z r : Nat → Int) (k l m : Int) : Prop :=
  (k = 0 ∧ z 0 = r 0 + l ∧ z 1 = r 1 + m ∧ z 2 = r 2 ∧ z 3 = r 3 ∧ z 4 = r 4 ∧ z 5 = r 5) ∨
  (k = 1 ∧ z 0 = r 0 ∧ z 1 = r 1 ∧ z 2 = r 2 + l ∧ z 3 = r 3 + m ∧ z 4 = r 4 ∧ z 5 = r 5) ∨
  (k = 2 ∧ z 0 = r 0 ∧ z 1 = r 1 ∧ z 2 = r 2 ∧ z 3 = r 3 ∧ z 4 = r 4 + l ∧ z 5 = r 5 + m)
theorem mvs_but {f : Nat → Nat → Int32} {t d : Nat} {mr but : Int} (h : (d : Int) = but) (i : Nat) : mvs f t mr but (d + 1) i = mvs f t mr but d i := by
  show mvs f t mr but d i + _ = _
  rw [if_pos h]; omega
theorem mvs_st {f : Nat → Nat → Int32} {t d : Nat} {mr but : Int} (h : (d : Int) ≠ but) (hk : 0 ≤ (f 0 d).toInt ∧ (f 0 d).toInt ≤ 2) : mv6 (mvs f t mr but (d + 1)) (mvs f t mr but d) (f 0 d).toInt (nLo f d t mr) (nHi f d t mr) := by
  have e : ∀ i : Nat, mvs f t mr but (d + 1) i = mvs f t mr but d i + (if (i : Int) = 2 * (f 0 d).toInt then nLo f d t mr else if (i : Int) = 2 * (f 0 d).toInt + 1 then nHi f d t mr else 0) := by
    intro i
    show mvs f t mr but d i + _ = _
    rw [if_neg h]
  unfold mv6
  rcases (show (f 0 d).toInt = 0 ∨ (f 0 d).toInt = 1 ∨ (f 0 d).toInt = 2 by omega) with k | k | k
  · left
    refine ⟨k, ?_⟩
    simp only [e, k]; simp
  · right; left
    refine ⟨k, ?_⟩
    simp only [e, k]; simp
  · right; right
    refine ⟨k, ?_⟩
    simp only [e, k]; simp
theorem crow_e (m : Nat → Int) : crow m 0 = m 0 - m 5 ∧ crow m 1 = m 1 - m 4 ∧ crow m 2 = m 2 + m 4 ∧ crow m 3 = m 3 + m 5 ∧ crow m 4 = m 0 + m 2 ∧ crow m 5 = m 1 + m 3 := ⟨rfl, rfl, rfl, rfl, rfl, rfl⟩
theorem crow_but {f : Nat → Nat → Int32} {t d : Nat} {mr but : Int} (h : (d : Int) = but) : eq6 (crow (mvs f t mr but (d + 1))) (crow (mvs f t mr but d)) := by
  have a := crow_e (mvs f t mr but (d + 1)); have b := crow_e (mvs f t mr but d)
  simp only [mvs_but h] at a
  unfold eq6; omega
theorem crow_st {f : Nat → Nat → Int32} {t d : Nat} {mr but : Int} (h : (d : Int) ≠ but) (hk : 0 ≤ (f 0 d).toInt ∧ (f 0 d).toInt ≤ 2) : ad6 (crow (mvs f t mr but (d + 1))) (crow (mvs f t mr but d)) (f 0 d).toInt (nLo f d t mr) (nHi f d t mr) := by
  have a := crow_e (mvs f t mr but (d + 1)); have b := crow_e (mvs f t mr but d)
  have q := mvs_st (t := t) (mr := mr) h hk
  unfold mv6 at q; unfold ad6; omega
theorem ad6_eq {z r z' r' : Nat → Int} {k l m : Int} (h : ad6 z r k l m) (h' : ad6 z' r' k l m) (e : eq6 r r') : eq6 z z' := by
  unfold ad6 at h h'; unfold eq6 at *; omega
theorem mvs_bd {f : Nat → Nat → Int32} {Tn Dn Cn t : Nat} {mr but : Int} (hI : Inv f Tn Dn Cn) (ht : t < Tn) (h0 : 0 ≤ mr) (h5 : mr ≤ 5) : ∀ d, d ≤ Dn → (mvs f t mr but d 0 ≤ mvs f t mr but d 1 ∧ mvs f t mr but d 2 ≤ mvs f t mr but d 3 ∧ mvs f t mr but d 4 ≤ mvs f t mr but d 5) ∧ ∀ i, i < 6 → -(30 * d) ≤ mvs f t mr but d i ∧ mvs f t mr but d i ≤ 30 * d := by
  intro d
  induction d with
  | zero => intro _; exact ⟨⟨Int.le_refl 0, Int.le_refl 0, Int.le_refl 0⟩, fun i _ => ⟨by show -(30 * (0 : Int)) ≤ 0; omega, by show (0 : Int) ≤ 30 * (0 : Int); omega⟩⟩
  | succ d ih =>
    intro hd
    obtain ⟨⟨g1, g2, g3⟩, gb⟩ := ih (by omega)
    have hn := n_bd (mr := mr) hI (show d < Dn by omega) ht h0 h5
    have hk := (hI.2.1 d (by omega)).1
    by_cases hb : (d : Int) = but
    · refine ⟨?_, fun i hi => ?_⟩
      · simp only [mvs_but hb]; exact ⟨g1, g2, g3⟩
      · have := gb i hi
        rw [mvs_but hb]; omega
    · have q := mvs_st (t := t) (mr := mr) hb hk
      have b0 := gb 0 (by omega); have b1 := gb 1 (by omega); have b2 := gb 2 (by omega); have b3 := gb 3 (by omega); have b4 := gb 4 (by omega); have b5 := gb 5 (by omega)
      unfold mv6 at q
      refine ⟨by omega, fun i hi => ?_⟩
      rcases (show i = 0 ∨ i = 1 ∨ i = 2 ∨ i = 3 ∨ i = 4 ∨ i = 5 by omega) with rfl | rfl | rfl | rfl | rfl | rfl <;> omega
theorem crow_tgt {m : Nat → Int} (h : m 0 ≤ m 1 ∧ m 2 ≤ m 3 ∧ m 4 ≤ m 5) : tgt (crow m) := by
  have a := crow_e m
  unfold tgt ok6; omega
theorem crow_bd {f : Nat → Nat → Int32} {Tn Dn Cn t : Nat} {mr but : Int} (hI : Inv f Tn Dn Cn) (ht : t < Tn) (h0 : 0 ≤ mr) (h5 : mr ≤ 5) (d : Nat) (hd : d ≤ Dn) : tgt (crow (mvs f t mr but d)) ∧ bd (crow (mvs f t mr but d)) 360 := by
  obtain ⟨g, gb⟩ := mvs_bd (but := but) hI ht h0 h5 d hd
  have a := crow_e (mvs f t mr but d)
  have hD := hI.1
  have b0 := gb 0 (by omega); have b1 := gb 1 (by omega); have b2 := gb 2 (by omega); have b3 := gb 3 (by omega); have b4 := gb 4 (by omega); have b5 := gb 5 (by omega)
  refine ⟨crow_tgt g, ?_⟩
  unfold bd; omega
/-- what the check q asks -/
def chk (f : Nat → Nat → Int32) (q : Nat) (a b : Int) : Prop :=
  ((f 9 q).toInt = 0 ∧ (f 10 q).toInt ≤ a ∧ a ≤ (f 11 q).toInt) ∨ ((f 9 q).toInt = 1 ∧ (f 10 q).toInt ≤ b ∧ b ≤ (f 11 q).toInt) ∨ ((f 9 q).toInt = 2 ∧ (f 10 q).toInt ≤ a + b ∧ a + b ≤ (f 11 q).toInt)
/-- not below 0, and the checks 0 .. q - 1 of the time t hold -/
def alw (f : Nat → Nat → Int32) (t : Nat) : Nat → Int → Int → Prop
  | 0 => fun a b => 0 ≤ a ∧ 0 ≤ b
  | q + 1 => fun a b => alw f t q a b ∧ ((f 8 q).toInt = (t : Int) → chk f q a b)
theorem alw_0 {f : Nat → Nat → Int32} {t : Nat} {a b : Int} : ∀ q, alw f t q a b → 0 ≤ a ∧ 0 ≤ b
  | 0, h => h
  | q + 1, h => alw_0 q h.1
/-- forward: what can be inside at the time t, by what is told up to it -/
def Fw (f : Nat → Nat → Int32) (Dn Cn : Nat) (mr : Int) : Nat → Int → Int → Prop
  | 0 => fun a b => (((f 6 0).toInt ≤ a ∧ a ≤ (f 7 0).toInt) ∧ ((f 6 1).toInt ≤ b ∧ b ≤ (f 7 1).toInt)) ∧ alw f 0 Cn a b
  | t + 1 => fun a b => (∃ a' b', Fw f Dn Cn mr t a' b' ∧ inR (crow (mvs f t mr (-1) Dn)) (a - a') (b - b')) ∧ alw f (t + 1) Cn a b
theorem Fw_alw {f : Nat → Nat → Int32} {Dn Cn : Nat} {mr : Int} {t : Nat} {a b : Int} (h : Fw f Dn Cn mr t a b) : alw f t Cn a b := by
  cases t with
  | zero => exact h.2
  | succ t => exact h.2
/-- no truth -/
def noT (f : Nat → Nat → Int32) (Tn Dn Cn : Nat) (mr : Int) : Prop := ∃ t, t ≤ Tn ∧ ∀ a b, ¬ Fw f Dn Cn mr t a b
/-- in a truth, n times before the last -/
def Trv (f : Nat → Nat → Int32) (Tn Dn Cn : Nat) : Nat → Int → Int → Prop
  | 0 => Fw f Dn Cn 0 Tn
  | n + 1 => fun a b => Fw f Dn Cn 0 (Tn - (n + 1)) a b ∧ ∃ a' b', inR (crow (mvs f (Tn - (n + 1)) 0 (-1) Dn)) a' b' ∧ Trv f Tn Dn Cn n (a + a') (b + b')
/-- backward, n times before the last: what can lead to the end -/
def Bkv (f : Nat → Nat → Int32) (Tn Dn Cn : Nat) : Nat → Int → Int → Prop
  | 0 => fun a b => (a ≤ 1000000 ∧ b ≤ 1000000 ∧ a + b ≤ 1000000) ∧ alw f Tn Cn a b
  | n + 1 => fun a b => (∃ a' b', inR (crow (mvs f (Tn - (n + 1)) 0 (-1) Dn)) a' b' ∧ Bkv f Tn Dn Cn n (a + a') (b + b')) ∧ alw f (Tn - (n + 1)) Cn a b
theorem Bkv_alw {f : Nat → Nat → Int32} {Tn Dn Cn : Nat} {n : Nat} {a b : Int} (h : Bkv f Tn Dn Cn n a b) : alw f (Tn - n) Cn a b := by
  cases n with
  | zero => exact h.2
  | succ n => exact h.2
theorem Trv_eq {f : Nat → Nat → Int32} {Tn Dn Cn : Nat} (hbd : ∀ a b, Fw f Dn Cn 0 Tn a b → a + b ≤ 1000000) : ∀ n, n ≤ Tn → ∀ a b, Trv f Tn Dn Cn n a b ↔ Fw f Dn Cn 0 (Tn - n) a b ∧ Bkv f Tn Dn Cn n a b := by
  intro n
  induction n with
  | zero =>
    intro _ a b
    constructor
    · intro h
      have h1 := Fw_alw h; have h2 := alw_0 _ h1; have h3 := hbd a b h
      exact ⟨h, ⟨by omega, by omega, h3⟩, h1⟩
    · intro h; exact h.1
  | succ n ih =>
    intro hn a b
    constructor
    · rintro ⟨h1, a', b', h2, h3⟩
      exact ⟨h1, ⟨a', b', h2, ((ih (by omega) _ _).mp h3).2⟩, Fw_alw h1⟩
    · rintro ⟨h1, ⟨a', b', h2, h3⟩, h4⟩
      refine ⟨h1, a', b', h2, (ih (by omega) _ _).mpr ⟨?_, h3⟩⟩
      have e : Tn - n = (Tn - (n + 1)) + 1 := by omega
      rw [e]
      refine ⟨⟨a, b, h1, ?_⟩, ?_⟩
      · have e1 : a + a' - a = a' := by omega
        have e2 : b + b' - b = b' := by omega
        rw [e1, e2]; exact h2
      · rw [← e]; exact Bkv_alw h3
/-- bounds of a tight row out of its pairs -/
def bh (q : Nat → Int) (B : Int) : Prop := (0 ≤ q 0 ∧ q 0 ≤ B) ∧ (0 ≤ q 1 ∧ q 1 ≤ B) ∧ (0 ≤ q 2 ∧ q 2 ≤ B) ∧ (0 ≤ q 3 ∧ q 3 ≤ B) ∧ (0 ≤ q 4 ∧ q 4 ≤ B) ∧ (0 ≤ q 5 ∧ q 5 ≤ B)
theorem Tt_bh {q r : Nat → Int} {P : Int → Int → Prop} {B : Int} (h : Tt q P) (hP : ∀ a b, P a b → inR r a b ∧ 0 ≤ a ∧ 0 ≤ b) (hr : r 1 ≤ B ∧ r 3 ≤ B ∧ r 5 ≤ B) : bh q B := by
  obtain ⟨ht, hs⟩ := h
  have g : ∀ a b, inR q a b → inR r a b ∧ 0 ≤ a ∧ 0 ≤ b := fun a b h => hP a b ((hs a b).mp h)
  unfold inR at g; unfold tgt ok6 at ht
  have p0 := g (q 0) (q 4 - q 0) (by omega)
  have p1 := g (q 1) (q 5 - q 1) (by omega)
  have p2 := g (q 4 - q 2) (q 2) (by omega)
  have p3 := g (q 5 - q 3) (q 3) (by omega)
  unfold bh; omega
theorem bh_bd {q : Nat → Int} {B B' : Int} (h : bh q B) (hB : B ≤ B') : bd q B' := by unfold bh at h; unfold bd; omega
theorem bh_le {q : Nat → Int} {B B' : Int} (h : bh q B) (hB : B ≤ B') : bh q B' := by unfold bh at *; omega
