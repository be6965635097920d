theorem c_iale {p : Program} {l : Launch} {e : Env} {R : Room} {s : State} {m : MethodId} {args : Array Value} {below : List Frame} {meth : Method} {c : Code} {H : Heap} {locs : List Loc} {cells slots : Nat} {Q : State → Prop} {cc : ByteArray} {pc : Nat} {ls : Array Slot} {rest : List Value} {D : va_G} {tys : List (ClassId × FieldType)} {ws : va_W} {a : Nat} {x : Int32} (hexec : p.tables.exec = Jvm.exec) (hb : c.code = cc) (hK : va_K D vwCl tys s) (hP : va_P D vwCl ws H) (q0 t0 : Nat) {cA : ClassId} {n : Nat} {f : Nat → Int32} (ha : ws[q0]? = some (a, .inl (cA, n, .inl f))) (ht : tys[t0]? = some (cA, .int)) {i : Int32} (j : Nat) (hi : i.toInt = (j : Int)) (hj : j < n) (hdg : decode cc pc = .ok (.iaload, 1)) (hv : f j = x)
    (kk : W p l e R s m args below meth c H locs cells slots Q (F0 m (pc + 1) ls (.int x :: rest))) : W p l e R s m args below meth c H locs cells slots Q (F0 m pc ls (.int i :: .ref a :: rest)) :=
  c_iald hexec hb hK hP q0 t0 ha ht j hi hj hdg (fun v ev => by rw [ev, hv]; exact kk)
theorem hold0 {s : Nat → Int32} {t : Nat} {x y : Int32} (hx : isMx x.toInt (s (6 * t)).toInt 0) (hy : isMx y.toInt (s (6 * t + 2)).toInt 0) :
    (∀ p q, inR (rwM (upd (upd s (6 * t) x) (6 * t + 2) y) t) p q ↔ inR (rwM s t) p q ∧ (0 ≤ p ∧ 0 ≤ q)) ∧ ∀ B, 0 ≤ B → bd (rwM s t) B → bd (rwM (upd (upd s (6 * t) x) (6 * t + 2) y) t) B := by
  have hx' : x.toInt = max _ _ := hx
  have hy' : y.toInt = max _ _ := hy
  have g0 : rwM (upd (upd s (6 * t) x) (6 * t + 2) y) t 0 = x.toInt := by show (upd (upd s (6 * t) x) (6 * t + 2) y (6 * t)).toInt = _; rw [pk_un (by omega), pk_us]
  have g1 : rwM (upd (upd s (6 * t) x) (6 * t + 2) y) t 1 = rwM s t 1 := by show (upd (upd s (6 * t) x) (6 * t + 2) y (6 * t + 1)).toInt = _; rw [pk_un (by omega), pk_un (by omega)]; rfl
  have g2 : rwM (upd (upd s (6 * t) x) (6 * t + 2) y) t 2 = y.toInt := by show (upd (upd s (6 * t) x) (6 * t + 2) y (6 * t + 2)).toInt = _; rw [pk_us]
  have g3 : rwM (upd (upd s (6 * t) x) (6 * t + 2) y) t 3 = rwM s t 3 := by show (upd (upd s (6 * t) x) (6 * t + 2) y (6 * t + 3)).toInt = _; rw [pk_un (by omega), pk_un (by omega)]; rfl
  have g4 : rwM (upd (upd s (6 * t) x) (6 * t + 2) y) t 4 = rwM s t 4 := by show (upd (upd s (6 * t) x) (6 * t + 2) y (6 * t + 4)).toInt = _; rw [pk_un (by omega), pk_un (by omega)]; rfl
  have g5 : rwM (upd (upd s (6 * t) x) (6 * t + 2) y) t 5 = rwM s t 5 := by show (upd (upd s (6 * t) x) (6 * t + 2) y (6 * t + 5)).toInt = _; rw [pk_un (by omega), pk_un (by omega)]; rfl
  have ex : (s (6 * t)).toInt = rwM s t 0 := rfl
  have ey : (s (6 * t + 2)).toInt = rwM s t 2 := rfl
  rw [ex] at hx'; rw [ey] at hy'
  generalize rwM (upd (upd s (6 * t) x) (6 * t + 2) y) t = z at *
  generalize rwM s t = r at *
  unfold inR bd
  rw [g0, g1, g2, g3, g4, g5]
  exact ⟨fun p q => by omega, fun B h0 hB => by omega⟩
set_option maxHeartbeats 4000000 in
set_option maxRecDepth 100000 in
theorem kX2_close (l : Launch) (D : va_G) (cI : ClassId) (ad : Nat → Nat) (as : Nat) (T : Int32) (Dv : Int32) (C : Int32) (th : Int32) (mo : Int32) (sa : Nat → Int32) (p2 : Int32) (t : Nat) (h2 : p2.toInt = ((6 * t : Nat) : Int)) (ht : t ≤ 60) (hbd0 : bd (rwM sa t) 2000000) : MI l yX2_close wsX2_close ({ frames := 1, cells := 0, slots := 0, locals := 21 } : Room) D [(cI, .int)] [.ref (ad 0), .ref as, .int p2] (WC cI ad as T Dv C th mo sa) (fun u : Nat → Int32 => (WC cI ad as T Dv C th mo u)) (fun (r : Int32) (u : Nat → Int32) => ((r.toInt = 1 ∧ Tt (rwM u t) (inR (rwM sa t))) ∨ (r.toInt = 0 ∧ ∀ a b, ¬ inR (rwM sa t) a b)) ∧ (∀ j, (j < 6 * t ∨ 6 * t + 6 ≤ j) → u j = sa j)) := by
  refine c_ent (cc := cX2_close) (maxL := 4) (ret := (some .boolean)) (Qc := fun A => va_Qi (fun (r : Int32) (u : Nat → Int32) => ((r.toInt = 1 ∧ Tt (rwM u t) (inR (rwM sa t))) ∨ (r.toInt = 0 ∧ ∀ a b, ¬ inR (rwM sa t) a b)) ∧ (∀ j, (j < 6 * t ∨ 6 * t + 6 ≤ j) → u j = sa j)) (cB D [(cI, .int)] A (fun u : Nat → Int32 => (WC cI ad as T Dv C th mo u))) A) (by decide) rfl (Nat.le_of_ble_eq_true rfl) ?_
  intro p e s m below meth c A ls hx hb hr hlocks hts hown hml hK hP hD hA hl
  have hS : va_S A s.heap s.heap [] := va_S.rf
  have hl : lv_has ls 4 [(0, .ref (ad 0)), (1, .ref as), (2, .int p2)] := hl
  have hP : va_P D vwCl (WC cI ad as T Dv C th mo sa) s.heap := hP
  refine c_iconst hx hb dX2_close_0 (by decide) (fun v0 i0 => ?_)
  refine lv_istore_n (lv' := [(3, .int v0), (0, .ref (ad 0)), (1, .ref as), (2, .int p2)]) hx hb dX2_close_1 rfl hl (by decide) rfl (fun ls hl => ?_)
  have HL2 : ∀ (n : Nat) (k : Nat) (x3 : Int32) (sa1 : Nat → Int32) (H : Heap) (locs : List Loc) (ls : Array Slot), (x3.toInt = (k : Int)) → (k ≤ 4) → (5 ≤ k + n) → (CI k (rwM sa1 t) (rwM sa t)) → (bd (rwM sa1 t) (bk5 k)) → ((∀ j, (j < 6 * t ∨ 6 * t + 6 ≤ j) → sa1 j = sa j)) → va_P D vwCl (WC cI ad as T Dv C th mo sa1) H → va_D A (WC cI ad as T Dv C th mo sa1) → va_S A s.heap H locs → lv_has ls 4 [(0, .ref (ad 0)), (1, .ref as), (2, .int p2), (3, .int x3)] → W p l e ({ frames := 1, cells := 0, slots := 0, locals := 21 } : Room) s m [.ref (ad 0), .ref as, .int p2].toArray below meth c H locs 0 0 (MQ below (va_Qi (fun (r : Int32) (u : Nat → Int32) => ((r.toInt = 1 ∧ Tt (rwM u t) (inR (rwM sa t))) ∨ (r.toInt = 0 ∧ ∀ a b, ¬ inR (rwM sa t) a b)) ∧ (∀ j, (j < 6 * t ∨ 6 * t + 6 ≤ j) → u j = sa j)) (cB D [(cI, .int)] A (fun u : Nat → Int32 => (WC cI ad as T Dv C th mo u))) A) [.ref (ad 0), .ref as, .int p2].toArray s 0 0 A) (F0 m 2 ls []) := by
    intro n
    induction n with
    | zero => intro k x3 sa1 H locs ls hx3 hk hms hci hbd hfr; exact absurd hms (by omega)
    | succ n ih2 =>
      intro k x3 sa1 H locs ls hx3 hk hms hci hbd hfr hP hD hS hl
      refine lv_iload_n hx hb dX2_close_2 rfl (lv_at hl 3 rfl) ?_
      refine c_iconst hx hb dX2_close_3 (by decide) (fun v3 i3 => ?_)
      refine c_icmp_ge (tgt := 149) hx hb dX2_close_4 (by decide) (fun c4 => ?_) (fun c4 => ?_)
      · skip
        refine lv_aload_n hx hb dX2_close_149 rfl (lv_at hl 1 rfl) ?_
        refine lv_iload_n hx hb dX2_close_150 rfl (lv_at hl 2 rfl) ?_
        refine c_iald hx hb hK hP 1 0 rfl rfl (6 * t) (by omega) (by omega) dX2_close_151 (fun v151 e151 => ?_)
        have i151 : v151.toInt = (sa1 (6 * t)).toInt := by rw [e151]
        refine lv_aload_n hx hb dX2_close_152 rfl (lv_at hl 1 rfl) ?_
        refine lv_iload_n hx hb dX2_close_153 rfl (lv_at hl 2 rfl) ?_
        refine c_iconst hx hb dX2_close_154 (by decide) (fun v154 i154 => ?_)
        refine c_iadd hx hb dX2_close_155 (by omega) (fun v155 i155 => ?_)
        refine c_iald hx hb hK hP 1 0 rfl rfl (6 * t + 1) (by omega) (by omega) dX2_close_156 (fun v156 e156 => ?_)
        have i156 : v156.toInt = (sa1 (6 * t + 1)).toInt := by rw [e156]
        refine c_icmp_gt (tgt := 190) hx hb dX2_close_157 (by decide) (fun c157 => ?_) (fun c157 => ?_)
        · skip
          refine c_iconst hx hb dX2_close_190 (by decide) (fun v190 i190 => ?_)
          exact c_rz sa1 hx hb hr hlocks hK hP hD hS dX2_close_191 (by omega) (by
                have hk4 : k = 4 := by omega
                obtain ⟨-, hci2⟩ := hci
                obtain ⟨g1, g2⟩ := hci2 (by omega)
                have hO : ok6 (rwM sa1 t) ↔ ((sa1 (6 * t)).toInt ≤ (sa1 (6 * t + 1)).toInt ∧ (sa1 (6 * t + 2)).toInt ≤ (sa1 (6 * t + 3)).toInt ∧ (sa1 (6 * t + 4)).toInt ≤ (sa1 (6 * t + 5)).toInt) := Iff.rfl
                refine ⟨?_, hfr⟩
                by_cases ho : ok6 (rwM sa1 t)
                · refine Or.inl ⟨?_, (g1 ho).1, (g1 ho).2⟩
                  have h9 := hO.mp ho
                  omega
                · refine Or.inr ⟨?_, g2 ho⟩
                  have h9 : ¬ _ := mt hO.mpr ho
                  omega)
        · skip
          refine lv_aload_n hx hb dX2_close_160 rfl (lv_at hl 1 rfl) ?_
          refine lv_iload_n hx hb dX2_close_161 rfl (lv_at hl 2 rfl) ?_
          refine c_iconst hx hb dX2_close_162 (by decide) (fun v162 i162 => ?_)
          refine c_iadd hx hb dX2_close_163 (by omega) (fun v163 i163 => ?_)
          refine c_iald hx hb hK hP 1 0 rfl rfl (6 * t + 2) (by omega) (by omega) dX2_close_164 (fun v164 e164 => ?_)
          have i164 : v164.toInt = (sa1 (6 * t + 2)).toInt := by rw [e164]
          refine lv_aload_n hx hb dX2_close_165 rfl (lv_at hl 1 rfl) ?_
          refine lv_iload_n hx hb dX2_close_166 rfl (lv_at hl 2 rfl) ?_
          refine c_iconst hx hb dX2_close_167 (by decide) (fun v167 i167 => ?_)
          refine c_iadd hx hb dX2_close_168 (by omega) (fun v168 i168 => ?_)
          refine c_iald hx hb hK hP 1 0 rfl rfl (6 * t + 3) (by omega) (by omega) dX2_close_169 (fun v169 e169 => ?_)
          have i169 : v169.toInt = (sa1 (6 * t + 3)).toInt := by rw [e169]
          refine c_icmp_gt (tgt := 190) hx hb dX2_close_170 (by decide) (fun c170 => ?_) (fun c170 => ?_)
          · skip
            refine c_iconst hx hb dX2_close_190 (by decide) (fun v190_2 i190_2 => ?_)
            exact c_rz sa1 hx hb hr hlocks hK hP hD hS dX2_close_191 (by omega) (by
                  have hk4 : k = 4 := by omega
                  obtain ⟨-, hci2⟩ := hci
                  obtain ⟨g1, g2⟩ := hci2 (by omega)
                  have hO : ok6 (rwM sa1 t) ↔ ((sa1 (6 * t)).toInt ≤ (sa1 (6 * t + 1)).toInt ∧ (sa1 (6 * t + 2)).toInt ≤ (sa1 (6 * t + 3)).toInt ∧ (sa1 (6 * t + 4)).toInt ≤ (sa1 (6 * t + 5)).toInt) := Iff.rfl
                  refine ⟨?_, hfr⟩
                  by_cases ho : ok6 (rwM sa1 t)
                  · refine Or.inl ⟨?_, (g1 ho).1, (g1 ho).2⟩
                    have h9 := hO.mp ho
                    omega
                  · refine Or.inr ⟨?_, g2 ho⟩
                    have h9 : ¬ _ := mt hO.mpr ho
                    omega)
          · skip
            refine lv_aload_n hx hb dX2_close_173 rfl (lv_at hl 1 rfl) ?_
            refine lv_iload_n hx hb dX2_close_174 rfl (lv_at hl 2 rfl) ?_
            refine c_iconst hx hb dX2_close_175 (by decide) (fun v175 i175 => ?_)
            refine c_iadd hx hb dX2_close_176 (by omega) (fun v176 i176 => ?_)
            refine c_iald hx hb hK hP 1 0 rfl rfl (6 * t + 4) (by omega) (by omega) dX2_close_177 (fun v177 e177 => ?_)
            have i177 : v177.toInt = (sa1 (6 * t + 4)).toInt := by rw [e177]
            refine lv_aload_n hx hb dX2_close_178 rfl (lv_at hl 1 rfl) ?_
            refine lv_iload_n hx hb dX2_close_179 rfl (lv_at hl 2 rfl) ?_
            refine c_iconst hx hb dX2_close_180 (by decide) (fun v180 i180 => ?_)
            refine c_iadd hx hb dX2_close_181 (by omega) (fun v181 i181 => ?_)
            refine c_iald hx hb hK hP 1 0 rfl rfl (6 * t + 5) (by omega) (by omega) dX2_close_182 (fun v182 e182 => ?_)
            have i182 : v182.toInt = (sa1 (6 * t + 5)).toInt := by rw [e182]
            refine c_icmp_gt (tgt := 190) hx hb dX2_close_183 (by decide) (fun c183 => ?_) (fun c183 => ?_)
            · skip
              refine c_iconst hx hb dX2_close_190 (by decide) (fun v190_3 i190_3 => ?_)
              exact c_rz sa1 hx hb hr hlocks hK hP hD hS dX2_close_191 (by omega) (by
                    have hk4 : k = 4 := by omega
                    obtain ⟨-, hci2⟩ := hci
                    obtain ⟨g1, g2⟩ := hci2 (by omega)
                    have hO : ok6 (rwM sa1 t) ↔ ((sa1 (6 * t)).toInt ≤ (sa1 (6 * t + 1)).toInt ∧ (sa1 (6 * t + 2)).toInt ≤ (sa1 (6 * t + 3)).toInt ∧ (sa1 (6 * t + 4)).toInt ≤ (sa1 (6 * t + 5)).toInt) := Iff.rfl
                    refine ⟨?_, hfr⟩
                    by_cases ho : ok6 (rwM sa1 t)
                    · refine Or.inl ⟨?_, (g1 ho).1, (g1 ho).2⟩
                      have h9 := hO.mp ho
                      omega
                    · refine Or.inr ⟨?_, g2 ho⟩
                      have h9 : ¬ _ := mt hO.mpr ho
                      omega)
            · skip
              refine c_iconst hx hb dX2_close_186 (by decide) (fun v186 i186 => ?_)
              refine lv_goto (tgt := 191) hx hb dX2_close_187 (by decide) ?_
              exact c_rz sa1 hx hb hr hlocks hK hP hD hS dX2_close_191 (by omega) (by
                    have hk4 : k = 4 := by omega
                    obtain ⟨-, hci2⟩ := hci
                    obtain ⟨g1, g2⟩ := hci2 (by omega)
                    have hO : ok6 (rwM sa1 t) ↔ ((sa1 (6 * t)).toInt ≤ (sa1 (6 * t + 1)).toInt ∧ (sa1 (6 * t + 2)).toInt ≤ (sa1 (6 * t + 3)).toInt ∧ (sa1 (6 * t + 4)).toInt ≤ (sa1 (6 * t + 5)).toInt) := Iff.rfl
                    refine ⟨?_, hfr⟩
                    by_cases ho : ok6 (rwM sa1 t)
                    · refine Or.inl ⟨?_, (g1 ho).1, (g1 ho).2⟩
                      have h9 := hO.mp ho
                      omega
                    · refine Or.inr ⟨?_, g2 ho⟩
                      have h9 : ¬ _ := mt hO.mpr ho
                      omega)
      · skip
        have hBr := bk5_le (k := k) (by omega)
        obtain ⟨z0, z1, z2, z3, z4, z5⟩ := id hbd
        have w0 : (sa1 (6 * t)).toInt = rwM sa1 t 0 := rfl
        have w1 : (sa1 (6 * t + 1)).toInt = rwM sa1 t 1 := rfl
        have w2 : (sa1 (6 * t + 2)).toInt = rwM sa1 t 2 := rfl
        have w3 : (sa1 (6 * t + 3)).toInt = rwM sa1 t 3 := rfl
        have w4 : (sa1 (6 * t + 4)).toInt = rwM sa1 t 4 := rfl
        have w5 : (sa1 (6 * t + 5)).toInt = rwM sa1 t 5 := rfl
        refine lv_aload_n hx hb dX2_close_7 rfl (lv_at hl 1 rfl) ?_
        refine lv_iload_n hx hb dX2_close_8 rfl (lv_at hl 2 rfl) ?_
        refine lv_aload_n hx hb dX2_close_9 rfl (lv_at hl 1 rfl) ?_
        refine lv_iload_n hx hb dX2_close_10 rfl (lv_at hl 2 rfl) ?_
        refine c_iald hx hb hK hP 1 0 rfl rfl (6 * t) (by omega) (by omega) dX2_close_11 (fun v11 e11 => ?_)
        have i11 : v11.toInt = (sa1 (6 * t)).toInt := by rw [e11]
        refine lv_aload_n hx hb dX2_close_12 rfl (lv_at hl 1 rfl) ?_
        refine lv_iload_n hx hb dX2_close_13 rfl (lv_at hl 2 rfl) ?_
        refine c_iconst hx hb dX2_close_14 (by decide) (fun v14 i14 => ?_)
        refine c_iadd hx hb dX2_close_15 (by omega) (fun v15 i15 => ?_)
        refine c_iald hx hb hK hP 1 0 rfl rfl (6 * t + 4) (by omega) (by omega) dX2_close_16 (fun v16 e16 => ?_)
        have i16 : v16.toInt = (sa1 (6 * t + 4)).toInt := by rw [e16]
        refine lv_aload_n hx hb dX2_close_17 rfl (lv_at hl 1 rfl) ?_
        refine lv_iload_n hx hb dX2_close_18 rfl (lv_at hl 2 rfl) ?_
        refine c_iconst hx hb dX2_close_19 (by decide) (fun v19 i19 => ?_)
        refine c_iadd hx hb dX2_close_20 (by omega) (fun v20 i20 => ?_)
        refine c_iald hx hb hK hP 1 0 rfl rfl (6 * t + 3) (by omega) (by omega) dX2_close_21 (fun v21 e21 => ?_)
        have i21 : v21.toInt = (sa1 (6 * t + 3)).toInt := by rw [e21]
        refine c_isub hx hb dX2_close_22 (by omega) (fun v22 i22 => ?_)
        refine c_cpi (As := [.int v11, .int v22]) (kX2_greater l D cI v11 v22) ⟨hx, hb, hml, hown, hts⟩ (va_cwS 2 hts gX2_close_X2_greater rfl rfl rfl (by decide +kernel) ⟨Nat.le_of_ble_eq_true rfl, Nat.le_of_ble_eq_true rfl⟩) hK hP hS hA rfl hl.1 rfl (Nat.le_of_ble_eq_true rfl) dX2_close_23 ⟨Nat.zero_le _, Nat.zero_le _⟩ (fun r23 H locs q23 hP hS => ?_)
        try dsimp only at q23
        have b23 := mx_bd (a := -(2 * bk5 k)) (b := 2 * bk5 k) q23 (by omega) (by omega)
        refine c_iast hx hb hK hP hD hS 1 0 rfl rfl (6 * t) (by omega) (by omega) (WC cI ad as T Dv C th mo (upd sa1 (6 * t) r23)) rfl dX2_close_26 (fun H locs hP hD hS => ?_)
        refine lv_aload_n hx hb dX2_close_27 rfl (lv_at hl 1 rfl) ?_
        refine lv_iload_n hx hb dX2_close_28 rfl (lv_at hl 2 rfl) ?_
        refine c_iconst hx hb dX2_close_29 (by decide) (fun v29 i29 => ?_)
        refine c_iadd hx hb dX2_close_30 (by omega) (fun v30 i30 => ?_)
        refine lv_aload_n hx hb dX2_close_31 rfl (lv_at hl 1 rfl) ?_
        refine lv_iload_n hx hb dX2_close_32 rfl (lv_at hl 2 rfl) ?_
        refine c_iconst hx hb dX2_close_33 (by decide) (fun v33 i33 => ?_)
        refine c_iadd hx hb dX2_close_34 (by omega) (fun v34 i34 => ?_)
        refine c_iald hx hb hK hP 1 0 rfl rfl (6 * t + 1) (by omega) (by omega) dX2_close_35 (fun v35 e35 => ?_)
        rw [pk_un (by omega)] at e35
        have i35 : v35.toInt = (sa1 (6 * t + 1)).toInt := by rw [e35]
        refine lv_aload_n hx hb dX2_close_36 rfl (lv_at hl 1 rfl) ?_
        refine lv_iload_n hx hb dX2_close_37 rfl (lv_at hl 2 rfl) ?_
        refine c_iconst hx hb dX2_close_38 (by decide) (fun v38 i38 => ?_)
        refine c_iadd hx hb dX2_close_39 (by omega) (fun v39 i39 => ?_)
        refine c_iald hx hb hK hP 1 0 rfl rfl (6 * t + 5) (by omega) (by omega) dX2_close_40 (fun v40 e40 => ?_)
        rw [pk_un (by omega)] at e40
        have i40 : v40.toInt = (sa1 (6 * t + 5)).toInt := by rw [e40]
        refine lv_aload_n hx hb dX2_close_41 rfl (lv_at hl 1 rfl) ?_
        refine lv_iload_n hx hb dX2_close_42 rfl (lv_at hl 2 rfl) ?_
        refine c_iconst hx hb dX2_close_43 (by decide) (fun v43 i43 => ?_)
        refine c_iadd hx hb dX2_close_44 (by omega) (fun v44 i44 => ?_)
        refine c_iald hx hb hK hP 1 0 rfl rfl (6 * t + 2) (by omega) (by omega) dX2_close_45 (fun v45 e45 => ?_)
        rw [pk_un (by omega)] at e45
        have i45 : v45.toInt = (sa1 (6 * t + 2)).toInt := by rw [e45]
        refine c_isub hx hb dX2_close_46 (by omega) (fun v46 i46 => ?_)
        refine c_cpi (As := [.int v35, .int v46]) (kX2_lesser l D cI v35 v46) ⟨hx, hb, hml, hown, hts⟩ (va_cwS 2 hts gX2_close_X2_lesser rfl rfl rfl (by decide +kernel) ⟨Nat.le_of_ble_eq_true rfl, Nat.le_of_ble_eq_true rfl⟩) hK hP hS hA rfl hl.1 rfl (Nat.le_of_ble_eq_true rfl) dX2_close_47 ⟨Nat.zero_le _, Nat.zero_le _⟩ (fun r47 H locs q47 hP hS => ?_)
        try dsimp only at q47
        have b47 := mn_bd (a := -(2 * bk5 k)) (b := 2 * bk5 k) q47 (by omega) (by omega)
        refine c_iast hx hb hK hP hD hS 1 0 rfl rfl (6 * t + 1) (by omega) (by omega) (WC cI ad as T Dv C th mo (upd (upd sa1 (6 * t) r23) (6 * t + 1) r47)) rfl dX2_close_50 (fun H locs hP hD hS => ?_)
        refine lv_aload_n hx hb dX2_close_51 rfl (lv_at hl 1 rfl) ?_
        refine lv_iload_n hx hb dX2_close_52 rfl (lv_at hl 2 rfl) ?_
        refine c_iconst hx hb dX2_close_53 (by decide) (fun v53 i53 => ?_)
        refine c_iadd hx hb dX2_close_54 (by omega) (fun v54 i54 => ?_)
        refine lv_aload_n hx hb dX2_close_55 rfl (lv_at hl 1 rfl) ?_
        refine lv_iload_n hx hb dX2_close_56 rfl (lv_at hl 2 rfl) ?_
        refine c_iconst hx hb dX2_close_57 (by decide) (fun v57 i57 => ?_)
        refine c_iadd hx hb dX2_close_58 (by omega) (fun v58 i58 => ?_)
        refine c_iald hx hb hK hP 1 0 rfl rfl (6 * t + 2) (by omega) (by omega) dX2_close_59 (fun v59 e59 => ?_)
        rw [pk_un (by omega), pk_un (by omega)] at e59
        have i59 : v59.toInt = (sa1 (6 * t + 2)).toInt := by rw [e59]
        refine lv_aload_n hx hb dX2_close_60 rfl (lv_at hl 1 rfl) ?_
        refine lv_iload_n hx hb dX2_close_61 rfl (lv_at hl 2 rfl) ?_
        refine c_iconst hx hb dX2_close_62 (by decide) (fun v62 i62 => ?_)
        refine c_iadd hx hb dX2_close_63 (by omega) (fun v63 i63 => ?_)
        refine c_iald hx hb hK hP 1 0 rfl rfl (6 * t + 4) (by omega) (by omega) dX2_close_64 (fun v64 e64 => ?_)
        rw [pk_un (by omega), pk_un (by omega)] at e64
        have i64 : v64.toInt = (sa1 (6 * t + 4)).toInt := by rw [e64]
        refine lv_aload_n hx hb dX2_close_65 rfl (lv_at hl 1 rfl) ?_
        refine lv_iload_n hx hb dX2_close_66 rfl (lv_at hl 2 rfl) ?_
        refine c_iconst hx hb dX2_close_67 (by decide) (fun v67 i67 => ?_)
        refine c_iadd hx hb dX2_close_68 (by omega) (fun v68 i68 => ?_)
        refine c_iale (x := r47) hx hb hK hP 1 0 rfl rfl (6 * t + 1) (by omega) (by omega) dX2_close_69 (by rw [pk_us]) ?_
        refine c_isub hx hb dX2_close_70 (by omega) (fun v70 i70 => ?_)
        refine c_cpi (As := [.int v59, .int v70]) (kX2_greater l D cI v59 v70) ⟨hx, hb, hml, hown, hts⟩ (va_cwS 2 hts gX2_close_X2_greater rfl rfl rfl (by decide +kernel) ⟨Nat.le_of_ble_eq_true rfl, Nat.le_of_ble_eq_true rfl⟩) hK hP hS hA rfl hl.1 rfl (Nat.le_of_ble_eq_true rfl) dX2_close_71 ⟨Nat.zero_le _, Nat.zero_le _⟩ (fun r71 H locs q71 hP hS => ?_)
        try dsimp only at q71
        have b71 := mx_bd (a := -(3 * bk5 k)) (b := 3 * bk5 k) q71 (by omega) (by omega)
        refine c_iast hx hb hK hP hD hS 1 0 rfl rfl (6 * t + 2) (by omega) (by omega) (WC cI ad as T Dv C th mo (upd (upd (upd sa1 (6 * t) r23) (6 * t + 1) r47) (6 * t + 2) r71)) rfl dX2_close_74 (fun H locs hP hD hS => ?_)
        refine lv_aload_n hx hb dX2_close_75 rfl (lv_at hl 1 rfl) ?_
        refine lv_iload_n hx hb dX2_close_76 rfl (lv_at hl 2 rfl) ?_
        refine c_iconst hx hb dX2_close_77 (by decide) (fun v77 i77 => ?_)
        refine c_iadd hx hb dX2_close_78 (by omega) (fun v78 i78 => ?_)
        refine lv_aload_n hx hb dX2_close_79 rfl (lv_at hl 1 rfl) ?_
        refine lv_iload_n hx hb dX2_close_80 rfl (lv_at hl 2 rfl) ?_
        refine c_iconst hx hb dX2_close_81 (by decide) (fun v81 i81 => ?_)
        refine c_iadd hx hb dX2_close_82 (by omega) (fun v82 i82 => ?_)
        refine c_iald hx hb hK hP 1 0 rfl rfl (6 * t + 3) (by omega) (by omega) dX2_close_83 (fun v83 e83 => ?_)
        rw [pk_un (by omega), pk_un (by omega), pk_un (by omega)] at e83
        have i83 : v83.toInt = (sa1 (6 * t + 3)).toInt := by rw [e83]
        refine lv_aload_n hx hb dX2_close_84 rfl (lv_at hl 1 rfl) ?_
        refine lv_iload_n hx hb dX2_close_85 rfl (lv_at hl 2 rfl) ?_
        refine c_iconst hx hb dX2_close_86 (by decide) (fun v86 i86 => ?_)
        refine c_iadd hx hb dX2_close_87 (by omega) (fun v87 i87 => ?_)
        refine c_iald hx hb hK hP 1 0 rfl rfl (6 * t + 5) (by omega) (by omega) dX2_close_88 (fun v88 e88 => ?_)
        rw [pk_un (by omega), pk_un (by omega), pk_un (by omega)] at e88
        have i88 : v88.toInt = (sa1 (6 * t + 5)).toInt := by rw [e88]
        refine lv_aload_n hx hb dX2_close_89 rfl (lv_at hl 1 rfl) ?_
        refine lv_iload_n hx hb dX2_close_90 rfl (lv_at hl 2 rfl) ?_
        refine c_iale (x := r23) hx hb hK hP 1 0 rfl rfl (6 * t) (by omega) (by omega) dX2_close_91 (by rw [pk_un (by omega), pk_un (by omega), pk_us]) ?_
        refine c_isub hx hb dX2_close_92 (by omega) (fun v92 i92 => ?_)
        refine c_cpi (As := [.int v83, .int v92]) (kX2_lesser l D cI v83 v92) ⟨hx, hb, hml, hown, hts⟩ (va_cwS 2 hts gX2_close_X2_lesser rfl rfl rfl (by decide +kernel) ⟨Nat.le_of_ble_eq_true rfl, Nat.le_of_ble_eq_true rfl⟩) hK hP hS hA rfl hl.1 rfl (Nat.le_of_ble_eq_true rfl) dX2_close_93 ⟨Nat.zero_le _, Nat.zero_le _⟩ (fun r93 H locs q93 hP hS => ?_)
        try dsimp only at q93
        have b93 := mn_bd (a := -(3 * bk5 k)) (b := 3 * bk5 k) q93 (by omega) (by omega)
        refine c_iast hx hb hK hP hD hS 1 0 rfl rfl (6 * t + 3) (by omega) (by omega) (WC cI ad as T Dv C th mo (upd (upd (upd (upd sa1 (6 * t) r23) (6 * t + 1) r47) (6 * t + 2) r71) (6 * t + 3) r93)) rfl dX2_close_96 (fun H locs hP hD hS => ?_)
        refine lv_aload_n hx hb dX2_close_97 rfl (lv_at hl 1 rfl) ?_
        refine lv_iload_n hx hb dX2_close_98 rfl (lv_at hl 2 rfl) ?_
        refine c_iconst hx hb dX2_close_99 (by decide) (fun v99 i99 => ?_)
        refine c_iadd hx hb dX2_close_100 (by omega) (fun v100 i100 => ?_)
        refine lv_aload_n hx hb dX2_close_101 rfl (lv_at hl 1 rfl) ?_
        refine lv_iload_n hx hb dX2_close_102 rfl (lv_at hl 2 rfl) ?_
        refine c_iconst hx hb dX2_close_103 (by decide) (fun v103 i103 => ?_)
        refine c_iadd hx hb dX2_close_104 (by omega) (fun v104 i104 => ?_)
        refine c_iald hx hb hK hP 1 0 rfl rfl (6 * t + 4) (by omega) (by omega) dX2_close_105 (fun v105 e105 => ?_)
        rw [pk_un (by omega), pk_un (by omega), pk_un (by omega), pk_un (by omega)] at e105
        have i105 : v105.toInt = (sa1 (6 * t + 4)).toInt := by rw [e105]
        refine lv_aload_n hx hb dX2_close_106 rfl (lv_at hl 1 rfl) ?_
        refine lv_iload_n hx hb dX2_close_107 rfl (lv_at hl 2 rfl) ?_
        refine c_iale (x := r23) hx hb hK hP 1 0 rfl rfl (6 * t) (by omega) (by omega) dX2_close_108 (by rw [pk_un (by omega), pk_un (by omega), pk_un (by omega), pk_us]) ?_
        refine lv_aload_n hx hb dX2_close_109 rfl (lv_at hl 1 rfl) ?_
        refine lv_iload_n hx hb dX2_close_110 rfl (lv_at hl 2 rfl) ?_
        refine c_iconst hx hb dX2_close_111 (by decide) (fun v111 i111 => ?_)
        refine c_iadd hx hb dX2_close_112 (by omega) (fun v112 i112 => ?_)
        refine c_iale (x := r71) hx hb hK hP 1 0 rfl rfl (6 * t + 2) (by omega) (by omega) dX2_close_113 (by rw [pk_un (by omega), pk_us]) ?_
        refine c_iadd hx hb dX2_close_114 (by omega) (fun v114 i114 => ?_)
        refine c_cpi (As := [.int v105, .int v114]) (kX2_greater l D cI v105 v114) ⟨hx, hb, hml, hown, hts⟩ (va_cwS 2 hts gX2_close_X2_greater rfl rfl rfl (by decide +kernel) ⟨Nat.le_of_ble_eq_true rfl, Nat.le_of_ble_eq_true rfl⟩) hK hP hS hA rfl hl.1 rfl (Nat.le_of_ble_eq_true rfl) dX2_close_115 ⟨Nat.zero_le _, Nat.zero_le _⟩ (fun r115 H locs q115 hP hS => ?_)
        try dsimp only at q115
        have b115 := mx_bd (a := -(5 * bk5 k)) (b := 5 * bk5 k) q115 (by omega) (by omega)
        refine c_iast hx hb hK hP hD hS 1 0 rfl rfl (6 * t + 4) (by omega) (by omega) (WC cI ad as T Dv C th mo (upd (upd (upd (upd (upd sa1 (6 * t) r23) (6 * t + 1) r47) (6 * t + 2) r71) (6 * t + 3) r93) (6 * t + 4) r115)) rfl dX2_close_118 (fun H locs hP hD hS => ?_)
        refine lv_aload_n hx hb dX2_close_119 rfl (lv_at hl 1 rfl) ?_
        refine lv_iload_n hx hb dX2_close_120 rfl (lv_at hl 2 rfl) ?_
        refine c_iconst hx hb dX2_close_121 (by decide) (fun v121 i121 => ?_)
        refine c_iadd hx hb dX2_close_122 (by omega) (fun v122 i122 => ?_)
        refine lv_aload_n hx hb dX2_close_123 rfl (lv_at hl 1 rfl) ?_
        refine lv_iload_n hx hb dX2_close_124 rfl (lv_at hl 2 rfl) ?_
        refine c_iconst hx hb dX2_close_125 (by decide) (fun v125 i125 => ?_)
        refine c_iadd hx hb dX2_close_126 (by omega) (fun v126 i126 => ?_)
        refine c_iald hx hb hK hP 1 0 rfl rfl (6 * t + 5) (by omega) (by omega) dX2_close_127 (fun v127 e127 => ?_)
        rw [pk_un (by omega), pk_un (by omega), pk_un (by omega), pk_un (by omega), pk_un (by omega)] at e127
        have i127 : v127.toInt = (sa1 (6 * t + 5)).toInt := by rw [e127]
        refine lv_aload_n hx hb dX2_close_128 rfl (lv_at hl 1 rfl) ?_
        refine lv_iload_n hx hb dX2_close_129 rfl (lv_at hl 2 rfl) ?_
        refine c_iconst hx hb dX2_close_130 (by decide) (fun v130 i130 => ?_)
        refine c_iadd hx hb dX2_close_131 (by omega) (fun v131 i131 => ?_)
        refine c_iale (x := r47) hx hb hK hP 1 0 rfl rfl (6 * t + 1) (by omega) (by omega) dX2_close_132 (by rw [pk_un (by omega), pk_un (by omega), pk_un (by omega), pk_us]) ?_
        refine lv_aload_n hx hb dX2_close_133 rfl (lv_at hl 1 rfl) ?_
        refine lv_iload_n hx hb dX2_close_134 rfl (lv_at hl 2 rfl) ?_
        refine c_iconst hx hb dX2_close_135 (by decide) (fun v135 i135 => ?_)
        refine c_iadd hx hb dX2_close_136 (by omega) (fun v136 i136 => ?_)
        refine c_iale (x := r93) hx hb hK hP 1 0 rfl rfl (6 * t + 3) (by omega) (by omega) dX2_close_137 (by rw [pk_un (by omega), pk_us]) ?_
        refine c_iadd hx hb dX2_close_138 (by omega) (fun v138 i138 => ?_)
        refine c_cpi (As := [.int v127, .int v138]) (kX2_lesser l D cI v127 v138) ⟨hx, hb, hml, hown, hts⟩ (va_cwS 2 hts gX2_close_X2_lesser rfl rfl rfl (by decide +kernel) ⟨Nat.le_of_ble_eq_true rfl, Nat.le_of_ble_eq_true rfl⟩) hK hP hS hA rfl hl.1 rfl (Nat.le_of_ble_eq_true rfl) dX2_close_139 ⟨Nat.zero_le _, Nat.zero_le _⟩ (fun r139 H locs q139 hP hS => ?_)
        try dsimp only at q139
        have b139 := mn_bd (a := -(5 * bk5 k)) (b := 5 * bk5 k) q139 (by omega) (by omega)
        refine c_iast hx hb hK hP hD hS 1 0 rfl rfl (6 * t + 5) (by omega) (by omega) (WC cI ad as T Dv C th mo (upd (upd (upd (upd (upd (upd sa1 (6 * t) r23) (6 * t + 1) r47) (6 * t + 2) r71) (6 * t + 3) r93) (6 * t + 4) r115) (6 * t + 5) r139)) rfl dX2_close_142 (fun H locs hP hD hS => ?_)
        have U := up6 (s := sa1) (6 * t) (x0 := r23) (x1 := r47) (x2 := r71) (x3 := r93) (x4 := r115) (x5 := r139) rfl rfl rfl rfl rfl rfl
        obtain ⟨sa2, es⟩ : ∃ z, z = (upd (upd (upd (upd (upd (upd sa1 (6 * t) r23) (6 * t + 1) r47) (6 * t + 2) r71) (6 * t + 3) r93) (6 * t + 4) r115) (6 * t + 5) r139) := ⟨_, rfl⟩
        rw [← es] at hP hD U
        have e0 : rwM sa2 t 0 = r23.toInt := congrArg Int32.toInt U.1.1
        have e1 : rwM sa2 t 1 = r47.toInt := congrArg Int32.toInt U.1.2.1
        have e2 : rwM sa2 t 2 = r71.toInt := congrArg Int32.toInt U.1.2.2.1
        have e3 : rwM sa2 t 3 = r93.toInt := congrArg Int32.toInt U.1.2.2.2.1
        have e4 : rwM sa2 t 4 = r115.toInt := congrArg Int32.toInt U.1.2.2.2.2.1
        have e5 : rwM sa2 t 5 = r139.toInt := congrArg Int32.toInt U.1.2.2.2.2.2
        have hcl : isCl (rwM sa2 t) (rwM sa1 t) := by
          have m0 : r23.toInt = max _ _ := q23
          have m1 : r47.toInt = min _ _ := q47
          have m2 : r71.toInt = max _ _ := q71
          have m3 : r93.toInt = min _ _ := q93
          have m4 : r115.toInt = max _ _ := q115
          have m5 : r139.toInt = min _ _ := q139
          refine ⟨?_, ?_, ?_, ?_, ?_, ?_⟩
          · rw [e0, m0, i11, i22, i16, i21, w0, w4, w3]
          · rw [e1, m1, i35, i46, i40, i45, w1, w5, w2]
          · rw [e2, e1, m2, i59, i70, i64, w2, w4]
          · rw [e3, e0, m3, i83, i92, i88, w3, w5]
          · rw [e4, e0, e2, m4, i105, i114, w4]
          · rw [e5, e1, e3, m5, i127, i138, w5]
        have hbd2 : bd (rwM sa2 t) (bk5 (k + 1)) := by
          show bd (rwM sa2 t) (5 * bk5 k)
          unfold bd
          rw [e0, e1, e2, e3, e4, e5]
          omega
        refine c_iinc (k := 3) hx hb (fun v143 => [(3, .int v143), (0, .ref (ad 0)), (1, .ref as), (2, .int p2)]) dX2_close_143 hl rfl (by decide) (by omega) (by decide) (fun _ => rfl) (fun v143 ls i143 hl => ?_)
        have hl : lv_has ls 4 [(3, .int v143), (0, .ref (ad 0)), (1, .ref as), (2, .int p2)] := hl
        refine lv_goto (tgt := 2) hx hb dX2_close_146 (by decide) ?_
        exact ih2 (k + 1) v143 sa2 _ _ _ (by omega) (by omega) (by omega) (CI_1 hci hcl) hbd2 (fun j hj => (U.2 j (by omega)).trans (hfr j hj)) hP hD hS (lv_sub hl [1, 2, 3, 0] rfl)
  exact HL2 5 0 v0 sa _ _ _ (by omega) (by omega) (by omega) ⟨fun _ => ⟨rfl, rfl, rfl, rfl, rfl, rfl⟩, fun h => absurd rfl h⟩ hbd0 (fun j _ => rfl) hP hD hS (lv_sub hl [1, 2, 3, 0] rfl)
set_option maxHeartbeats 4000000 in
set_option maxRecDepth 100000 in
theorem kX2_holds (l : Launch) (D : va_G) (cI : ClassId) (ad : Nat → Nat) (as : Nat) (f : Nat → Nat → Int32) (T : Int32) (Dv : Int32) (C : Int32) (th : Int32) (mo : Int32) (sa : Nat → Int32) (Tn : Nat) (Dn : Nat) (Cn : Nat) (p2 : Int32) (t : Nat) (hC : C.toInt = (Cn : Int)) (hI : Inv f Tn Dn Cn) (h2 : p2.toInt = (t : Int)) (ht : t ≤ 60) (hbt : bd (rwM sa t) 1500000) : MI l yX2_holds wsX2_holds ({ frames := 2, cells := 0, slots := 0, locals := 44 } : Room) D [(cI, .int)] [.ref (ad 0), .ref as, .int p2] (WH cI ad as f T Dv C th mo sa) (fun u : Nat → Int32 => (WH cI ad as f T Dv C th mo u)) (fun (r : Int32) (u : Nat → Int32) => ((r.toInt = 1 ∧ Tt (rwM u t) (fun a b => inR (rwM sa t) a b ∧ alw f t Cn a b)) ∨ (r.toInt = 0 ∧ ∀ a b, ¬ (inR (rwM sa t) a b ∧ alw f t Cn a b))) ∧ (∀ j, (j < 6 * t ∨ 6 * t + 6 ≤ j) → u j = sa j)) := by
  refine c_ent (cc := cX2_holds) (maxL := 5) (ret := (some .boolean)) (Qc := fun A => va_Qi (fun (r : Int32) (u : Nat → Int32) => ((r.toInt = 1 ∧ Tt (rwM u t) (fun a b => inR (rwM sa t) a b ∧ alw f t Cn a b)) ∨ (r.toInt = 0 ∧ ∀ a b, ¬ (inR (rwM sa t) a b ∧ alw f t Cn a b))) ∧ (∀ j, (j < 6 * t ∨ 6 * t + 6 ≤ j) → u j = sa j)) (cB D [(cI, .int)] A (fun u : Nat → Int32 => (WH cI ad as f T Dv C th mo u))) A) (by decide) rfl (Nat.le_of_ble_eq_true rfl) ?_
  intro p e s m below meth c A ls hx hb hr hlocks hts hown hml hK hP hD hA hl
  have hS : va_S A s.heap s.heap [] := va_S.rf
  have hl : lv_has ls 5 [(0, .ref (ad 0)), (1, .ref as), (2, .int p2)] := hl
  have hP : va_P D vwCl (WH cI ad as f T Dv C th mo sa) s.heap := hP
  have fl38 := hts (.fieldLink RX2 38 "DoorBenchModel" "cTime" "[I") (by decide +kernel)
  have fl41 := hts (.fieldLink RX2 41 "DoorBenchModel" "cWhat" "[I") (by decide +kernel)
  have fl44 := hts (.fieldLink RX2 44 "DoorBenchModel" "cLow" "[I") (by decide +kernel)
  have fl47 := hts (.fieldLink RX2 47 "DoorBenchModel" "cHigh" "[I") (by decide +kernel)
  have fl72 := hts (.fieldLink RX2 72 "DoorBenchModel" "checks" "I") (by decide +kernel)
  have inX2 : ∀ w ∈ wsX20, w ∈ wsX2_holds := by decide +kernel
  obtain ⟨hI0, hId, hIr, hIs, hIc⟩ := id hI
  refine c_bipush hx hb dX2_holds_0 (by decide) (fun v0 i0 => ?_)
  refine lv_iload_n hx hb dX2_holds_2 rfl (lv_at hl 2 rfl) ?_
  refine c_imul (a := 6) (b := p2.toInt) hx hb dX2_holds_3 (by omega) rfl (by omega) (fun v3 i3 => ?_)
  refine lv_istore_n (lv' := [(3, .int v3), (0, .ref (ad 0)), (1, .ref as), (2, .int p2)]) hx hb dX2_holds_4 rfl hl (by decide) rfl (fun ls hl => ?_)
  refine lv_aload_n hx hb dX2_holds_5 rfl (lv_at hl 2 rfl) ?_
  refine lv_iload_n hx hb dX2_holds_6 rfl (lv_at hl 0 rfl) ?_
  refine lv_aload_n hx hb dX2_holds_7 rfl (lv_at hl 2 rfl) ?_
  refine lv_iload_n hx hb dX2_holds_8 rfl (lv_at hl 0 rfl) ?_
  refine c_iald hx hb hK hP 5 0 rfl rfl (6 * t) (by omega) (by omega) dX2_holds_9 (fun v9 e9 => ?_)
  have i9 : v9.toInt = (sa (6 * t)).toInt := by rw [e9]
  refine c_iconst hx hb dX2_holds_10 (by decide) (fun v10 i10 => ?_)
  refine c_cpi (As := [.int v9, .int v10]) (kX2_greater l D cI v9 v10) ⟨hx, hb, hml, hown, hts⟩ (va_cwS 2 hts gX2_holds_X2_greater rfl rfl rfl (by decide +kernel) ⟨Nat.le_of_ble_eq_true rfl, Nat.le_of_ble_eq_true rfl⟩) hK hP hS hA rfl hl.1 rfl (Nat.le_of_ble_eq_true rfl) dX2_holds_11 ⟨Nat.zero_le _, Nat.zero_le _⟩ (fun r11 H locs q11 hP hS => ?_)
  try dsimp only at q11
  rw [i9, i10] at q11
  refine c_iast hx hb hK hP hD hS 5 0 rfl rfl (6 * t) (by omega) (by omega) (WH cI ad as f T Dv C th mo (upd sa (6 * t) r11)) rfl dX2_holds_14 (fun H locs hP hD hS => ?_)
  refine lv_aload_n hx hb dX2_holds_15 rfl (lv_at hl 2 rfl) ?_
  refine lv_iload_n hx hb dX2_holds_16 rfl (lv_at hl 0 rfl) ?_
  refine c_iconst hx hb dX2_holds_17 (by decide) (fun v17 i17 => ?_)
  refine c_iadd hx hb dX2_holds_18 (by omega) (fun v18 i18 => ?_)
  refine lv_aload_n hx hb dX2_holds_19 rfl (lv_at hl 2 rfl) ?_
  refine lv_iload_n hx hb dX2_holds_20 rfl (lv_at hl 0 rfl) ?_
  refine c_iconst hx hb dX2_holds_21 (by decide) (fun v21 i21 => ?_)
  refine c_iadd hx hb dX2_holds_22 (by omega) (fun v22 i22 => ?_)
  refine c_iald hx hb hK hP 5 0 rfl rfl (6 * t + 2) (by omega) (by omega) dX2_holds_23 (fun v23 e23 => ?_)
  rw [pk_un (by omega)] at e23
  have i23 : v23.toInt = (sa (6 * t + 2)).toInt := by rw [e23]
  refine c_iconst hx hb dX2_holds_24 (by decide) (fun v24 i24 => ?_)
  refine c_cpi (As := [.int v23, .int v24]) (kX2_greater l D cI v23 v24) ⟨hx, hb, hml, hown, hts⟩ (va_cwS 2 hts gX2_holds_X2_greater rfl rfl rfl (by decide +kernel) ⟨Nat.le_of_ble_eq_true rfl, Nat.le_of_ble_eq_true rfl⟩) hK hP hS hA rfl hl.1 rfl (Nat.le_of_ble_eq_true rfl) dX2_holds_25 ⟨Nat.zero_le _, Nat.zero_le _⟩ (fun r25 H locs q25 hP hS => ?_)
  try dsimp only at q25
  rw [i23, i24] at q25
  refine c_iast hx hb hK hP hD hS 5 0 rfl rfl (6 * t + 2) (by omega) (by omega) (WH cI ad as f T Dv C th mo (upd (upd sa (6 * t) r11) (6 * t + 2) r25)) rfl dX2_holds_28 (fun H locs hP hD hS => ?_)
  have H0 := hold0 (s := sa) (t := t) (x := r11) (y := r25) q11 q25
  have B0 := H0.2 1500000 (by omega) hbt
  have hin0 : ∀ a b, inR (rwM (upd (upd sa (6 * t) r11) (6 * t + 2) r25) t) a b ↔ inR (rwM sa t) a b ∧ alw f t 0 a b := H0.1
  have hfr0 : (∀ j, (j < 6 * t ∨ 6 * t + 6 ≤ j) → (upd (upd sa (6 * t) r11) (6 * t + 2) r25) j = sa j) := fun j hj => (pk_un (by omega)).trans (pk_un (by omega))
  refine c_iconst hx hb dX2_holds_29 (by decide) (fun v29 i29 => ?_)
  refine lv_istore (lv' := [(4, .int v29), (3, .int v3), (0, .ref (ad 0)), (1, .ref as), (2, .int p2)]) hx hb dX2_holds_30 hl (by decide) rfl (fun ls hl => ?_)
  have HL32 : ∀ (n : Nat) (q : Nat) (x4 : Int32) (sa1 : Nat → Int32) (H : Heap) (locs : List Loc) (ls : Array Slot), (x4.toInt = (q : Int)) → (q ≤ Cn) → (Cn + 1 ≤ q + n) → (∀ a b, inR (rwM sa1 t) a b ↔ inR (rwM sa t) a b ∧ alw f t q a b) → (bd (rwM sa1 t) 1500000) → ((∀ j, (j < 6 * t ∨ 6 * t + 6 ≤ j) → sa1 j = sa j)) → va_P D vwCl (WH cI ad as f T Dv C th mo sa1) H → va_D A (WH cI ad as f T Dv C th mo sa1) → va_S A s.heap H locs → lv_has ls 5 [(0, .ref (ad 0)), (1, .ref as), (2, .int p2), (3, .int v3), (4, .int x4)] → W p l e ({ frames := 2, cells := 0, slots := 0, locals := 44 } : Room) s m [.ref (ad 0), .ref as, .int p2].toArray below meth c H locs 0 0 (MQ below (va_Qi (fun (r : Int32) (u : Nat → Int32) => ((r.toInt = 1 ∧ Tt (rwM u t) (fun a b => inR (rwM sa t) a b ∧ alw f t Cn a b)) ∨ (r.toInt = 0 ∧ ∀ a b, ¬ (inR (rwM sa t) a b ∧ alw f t Cn a b))) ∧ (∀ j, (j < 6 * t ∨ 6 * t + 6 ≤ j) → u j = sa j)) (cB D [(cI, .int)] A (fun u : Nat → Int32 => (WH cI ad as f T Dv C th mo u))) A) [.ref (ad 0), .ref as, .int p2].toArray s 0 0 A) (F0 m 32 ls []) := by
    intro n
    induction n with
    | zero => intro q x4 sa1 H locs ls hx4 hq hms hin hb1 hfr; exact absurd hms (by omega)
    | succ n ih32 =>
      intro q x4 sa1 H locs ls hx4 hq hms hin hb1 hfr hP hD hS hl
      refine lv_iload hx hb dX2_holds_32 (lv_at hl 4 rfl) ?_
      refine lv_aload_n hx hb dX2_holds_34 rfl (lv_at hl 0 rfl) ?_
      refine va_get (D := D) (ci := 2) (v := .int C) (C := RX2) (T := TX2) (N := 21) hx hb hts inX2 hown hK hP 0 rfl rfl 10 (by decide) fl72 (fun _ h9 => h9) rfl dX2_holds_35 ?_
      refine c_icmp_ge (tgt := 137) hx hb dX2_holds_38 (by decide) (fun c38 => ?_) (fun c38 => ?_)
      · skip
        refine lv_aload_n hx hb dX2_holds_137 rfl (lv_at hl 0 rfl) ?_
        refine lv_aload_n hx hb dX2_holds_138 rfl (lv_at hl 1 rfl) ?_
        refine lv_iload_n hx hb dX2_holds_139 rfl (lv_at hl 3 rfl) ?_
        refine c_cvi (As := [.ref as, .int v3]) (ci := 2) (q0 := 0) (wr := [((ad 9), .inl (cI, 20, .inl (f 8))), ((ad 10), .inl (cI, 20, .inl (f 9))), ((ad 11), .inl (cI, 20, .inl (f 10))), ((ad 12), .inl (cI, 20, .inl (f 11)))]) (wF := (fun uZ => (WH cI ad as f T Dv C th mo uZ))) (kX2_close l D cI ad as T Dv C th mo sa1 v3 t (by omega) (by omega) (by unfold bd at *; omega)) ⟨hx, hb, hml, hown, hts⟩ (cwV 2 hts gX2_holds_X2_close rfl rfl rfl (by decide +kernel) ⟨Nat.le_of_ble_eq_true rfl, Nat.le_of_ble_eq_true rfl⟩) hK hP hD hS hA [0, 5] [1, 2, 3, 4] [4, 0, 1, 2, 3, 5] rfl (by decide) rfl (by decide) (by decide) (by decide) (fun _ => rfl) rfl rfl rfl rfl hl.1 rfl (Nat.le_of_ble_eq_true rfl) dX2_holds_140 ⟨Nat.zero_le _, Nat.zero_le _⟩ (fun r140 u140 H locs q140 hP hD hS => ?_)
        try dsimp only at q140
        have hP : va_P D vwCl (WH cI ad as f T Dv C th mo u140) H := hP
        have hD : va_D A (WH cI ad as f T Dv C th mo u140) := hD
        exact c_rz u140 hx hb hr hlocks hK hP hD hS dX2_holds_143 (by rcases q140.1 with ⟨z, -⟩ | ⟨z, -⟩ <;> omega) (by
                have hqq : q = Cn := by omega
                subst hqq
                refine ⟨?_, fun j hj => (q140.2 j hj).trans (hfr j hj)⟩
                rcases q140.1 with ⟨z1, z2⟩ | ⟨z1, z2⟩
                · exact Or.inl ⟨z1, z2.congr hin⟩
                · exact Or.inr ⟨z1, fun a b h => z2 a b ((hin a b).mpr h)⟩)
      · skip
        refine lv_aload_n hx hb dX2_holds_41 rfl (lv_at hl 0 rfl) ?_
        refine va_get (D := D) (ci := 2) (v := .ref (ad 9)) (C := RX2) (T := TX2) (N := 21) hx hb hts inX2 hown hK hP 0 rfl rfl 11 (by decide) fl38 (fun _ h9 => h9) rfl dX2_holds_42 ?_
        refine lv_iload hx hb dX2_holds_45 (lv_at hl 4 rfl) ?_
        refine c_iald hx hb hK hP 1 0 rfl rfl (q) (by omega) (by omega) dX2_holds_47 (fun v47 e47 => ?_)
        have i47 : v47.toInt = ((f 8) (q)).toInt := by rw [e47]
        refine lv_iload_n hx hb dX2_holds_48 rfl (lv_at hl 2 rfl) ?_
        refine c_icmp_eq (tgt := 55) hx hb dX2_holds_49 (by decide) (fun c49 => ?_) (fun c49 => ?_)
        · skip
          have n1 := hIc q (by omega)
          refine lv_aload_n hx hb dX2_holds_55 rfl (lv_at hl 1 rfl) ?_
          refine lv_iload_n hx hb dX2_holds_56 rfl (lv_at hl 3 rfl) ?_
          refine c_iconst hx hb dX2_holds_57 (by decide) (fun v57 i57 => ?_)
          refine lv_aload_n hx hb dX2_holds_58 rfl (lv_at hl 0 rfl) ?_
          refine va_get (D := D) (ci := 2) (v := .ref (ad 10)) (C := RX2) (T := TX2) (N := 21) hx hb hts inX2 hown hK hP 0 rfl rfl 12 (by decide) fl41 (fun _ h9 => h9) rfl dX2_holds_59 ?_
          refine lv_iload hx hb dX2_holds_62 (lv_at hl 4 rfl) ?_
          refine c_iald hx hb hK hP 2 0 rfl rfl (q) (by omega) (by omega) dX2_holds_64 (fun v64 e64 => ?_)
          have i64 : v64.toInt = ((f 9) (q)).toInt := by rw [e64]
          skip
          refine c_imul (a := 2) (b := v64.toInt) hx hb dX2_holds_65 (by omega) rfl (by omega) (fun v65 i65 => ?_)
          refine c_iadd hx hb dX2_holds_66 (by omega) (fun v66 i66 => ?_)
          refine lv_aload_n hx hb dX2_holds_67 rfl (lv_at hl 1 rfl) ?_
          refine lv_iload_n hx hb dX2_holds_68 rfl (lv_at hl 3 rfl) ?_
          refine c_iconst hx hb dX2_holds_69 (by decide) (fun v69 i69 => ?_)
          refine lv_aload_n hx hb dX2_holds_70 rfl (lv_at hl 0 rfl) ?_
          refine va_get (D := D) (ci := 2) (v := .ref (ad 10)) (C := RX2) (T := TX2) (N := 21) hx hb hts inX2 hown hK hP 0 rfl rfl 12 (by decide) fl41 (fun _ h9 => h9) rfl dX2_holds_71 ?_
          refine lv_iload hx hb dX2_holds_74 (lv_at hl 4 rfl) ?_
          refine c_iald hx hb hK hP 2 0 rfl rfl (q) (by omega) (by omega) dX2_holds_76 (fun v76 e76 => ?_)
          have i76 : v76.toInt = ((f 9) (q)).toInt := by rw [e76]
          skip
          refine c_imul (a := 2) (b := v76.toInt) hx hb dX2_holds_77 (by omega) rfl (by omega) (fun v77 i77 => ?_)
          refine c_iadd hx hb dX2_holds_78 (by omega) (fun v78 i78 => ?_)
          refine c_iald hx hb hK hP 5 0 rfl rfl (6 * t + 2 * (f 9 q).toInt.toNat) (by omega) (by omega) dX2_holds_79 (fun v79 e79 => ?_)
          have i79 : v79.toInt = (sa1 (6 * t + 2 * (f 9 q).toInt.toNat)).toInt := by rw [e79]
          refine lv_aload_n hx hb dX2_holds_80 rfl (lv_at hl 0 rfl) ?_
          refine va_get (D := D) (ci := 2) (v := .ref (ad 11)) (C := RX2) (T := TX2) (N := 21) hx hb hts inX2 hown hK hP 0 rfl rfl 13 (by decide) fl44 (fun _ h9 => h9) rfl dX2_holds_81 ?_
          refine lv_iload hx hb dX2_holds_84 (lv_at hl 4 rfl) ?_
          refine c_iald hx hb hK hP 3 0 rfl rfl (q) (by omega) (by omega) dX2_holds_86 (fun v86 e86 => ?_)
          have i86 : v86.toInt = ((f 10) (q)).toInt := by rw [e86]
          refine c_cpi (As := [.int v79, .int v86]) (kX2_greater l D cI v79 v86) ⟨hx, hb, hml, hown, hts⟩ (va_cwS 2 hts gX2_holds_X2_greater rfl rfl rfl (by decide +kernel) ⟨Nat.le_of_ble_eq_true rfl, Nat.le_of_ble_eq_true rfl⟩) hK hP hS hA rfl hl.1 rfl (Nat.le_of_ble_eq_true rfl) dX2_holds_87 ⟨Nat.zero_le _, Nat.zero_le _⟩ (fun r87 H locs q87 hP hS => ?_)
          try dsimp only at q87
          rw [i79] at q87
          refine c_iast hx hb hK hP hD hS 5 0 rfl rfl (6 * t + 2 * (f 9 q).toInt.toNat) (by omega) (by omega) (WH cI ad as f T Dv C th mo (upd sa1 (6 * t + 2 * (f 9 q).toInt.toNat) r87)) rfl dX2_holds_90 (fun H locs hP hD hS => ?_)
          refine lv_aload_n hx hb dX2_holds_91 rfl (lv_at hl 1 rfl) ?_
          refine lv_iload_n hx hb dX2_holds_92 rfl (lv_at hl 3 rfl) ?_
          refine c_iconst hx hb dX2_holds_93 (by decide) (fun v93 i93 => ?_)
          refine lv_aload_n hx hb dX2_holds_94 rfl (lv_at hl 0 rfl) ?_
          refine va_get (D := D) (ci := 2) (v := .ref (ad 10)) (C := RX2) (T := TX2) (N := 21) hx hb hts inX2 hown hK hP 0 rfl rfl 12 (by decide) fl41 (fun _ h9 => h9) rfl dX2_holds_95 ?_
          refine lv_iload hx hb dX2_holds_98 (lv_at hl 4 rfl) ?_
          refine c_iald hx hb hK hP 2 0 rfl rfl (q) (by omega) (by omega) dX2_holds_100 (fun v100 e100 => ?_)
          have i100 : v100.toInt = ((f 9) (q)).toInt := by rw [e100]
          skip
          refine c_imul (a := 2) (b := v100.toInt) hx hb dX2_holds_101 (by omega) rfl (by omega) (fun v101 i101 => ?_)
          refine c_iadd hx hb dX2_holds_102 (by omega) (fun v102 i102 => ?_)
          refine c_iconst hx hb dX2_holds_103 (by decide) (fun v103 i103 => ?_)
          refine c_iadd hx hb dX2_holds_104 (by omega) (fun v104 i104 => ?_)
          refine lv_aload_n hx hb dX2_holds_105 rfl (lv_at hl 1 rfl) ?_
          refine lv_iload_n hx hb dX2_holds_106 rfl (lv_at hl 3 rfl) ?_
          refine c_iconst hx hb dX2_holds_107 (by decide) (fun v107 i107 => ?_)
          refine lv_aload_n hx hb dX2_holds_108 rfl (lv_at hl 0 rfl) ?_
          refine va_get (D := D) (ci := 2) (v := .ref (ad 10)) (C := RX2) (T := TX2) (N := 21) hx hb hts inX2 hown hK hP 0 rfl rfl 12 (by decide) fl41 (fun _ h9 => h9) rfl dX2_holds_109 ?_
          refine lv_iload hx hb dX2_holds_112 (lv_at hl 4 rfl) ?_
          refine c_iald hx hb hK hP 2 0 rfl rfl (q) (by omega) (by omega) dX2_holds_114 (fun v114 e114 => ?_)
          have i114 : v114.toInt = ((f 9) (q)).toInt := by rw [e114]
          skip
          refine c_imul (a := 2) (b := v114.toInt) hx hb dX2_holds_115 (by omega) rfl (by omega) (fun v115 i115 => ?_)
          refine c_iadd hx hb dX2_holds_116 (by omega) (fun v116 i116 => ?_)
          refine c_iconst hx hb dX2_holds_117 (by decide) (fun v117 i117 => ?_)
          refine c_iadd hx hb dX2_holds_118 (by omega) (fun v118 i118 => ?_)
          refine c_iald hx hb hK hP 5 0 rfl rfl (6 * t + 2 * (f 9 q).toInt.toNat + 1) (by omega) (by omega) dX2_holds_119 (fun v119 e119 => ?_)
          rw [pk_un (by omega)] at e119
          have i119 : v119.toInt = (sa1 (6 * t + 2 * (f 9 q).toInt.toNat + 1)).toInt := by rw [e119]
          refine lv_aload_n hx hb dX2_holds_120 rfl (lv_at hl 0 rfl) ?_
          refine va_get (D := D) (ci := 2) (v := .ref (ad 12)) (C := RX2) (T := TX2) (N := 21) hx hb hts inX2 hown hK hP 0 rfl rfl 14 (by decide) fl47 (fun _ h9 => h9) rfl dX2_holds_121 ?_
          refine lv_iload hx hb dX2_holds_124 (lv_at hl 4 rfl) ?_
          refine c_iald hx hb hK hP 4 0 rfl rfl (q) (by omega) (by omega) dX2_holds_126 (fun v126 e126 => ?_)
          have i126 : v126.toInt = ((f 11) (q)).toInt := by rw [e126]
          refine c_cpi (As := [.int v119, .int v126]) (kX2_lesser l D cI v119 v126) ⟨hx, hb, hml, hown, hts⟩ (va_cwS 2 hts gX2_holds_X2_lesser rfl rfl rfl (by decide +kernel) ⟨Nat.le_of_ble_eq_true rfl, Nat.le_of_ble_eq_true rfl⟩) hK hP hS hA rfl hl.1 rfl (Nat.le_of_ble_eq_true rfl) dX2_holds_127 ⟨Nat.zero_le _, Nat.zero_le _⟩ (fun r127 H locs q127 hP hS => ?_)
          try dsimp only at q127
          rw [i119] at q127
          refine c_iast hx hb hK hP hD hS 5 0 rfl rfl (6 * t + 2 * (f 9 q).toInt.toNat + 1) (by omega) (by omega) (WH cI ad as f T Dv C th mo (upd (upd sa1 (6 * t + 2 * (f 9 q).toInt.toNat) r87) (6 * t + 2 * (f 9 q).toInt.toNat + 1) r127)) rfl dX2_holds_130 (fun H locs hP hD hS => ?_)
          refine c_iinc (k := 4) hx hb (fun v131 => [(4, .int v131), (0, .ref (ad 0)), (1, .ref as), (2, .int p2), (3, .int v3)]) dX2_holds_131 hl rfl (by decide) (by omega) (by decide) (fun _ => rfl) (fun v131 ls i131 hl => ?_)
          have hl : lv_has ls 5 [(4, .int v131), (0, .ref (ad 0)), (1, .ref as), (2, .int p2), (3, .int v3)] := hl
          refine lv_goto (tgt := 32) hx hb dX2_holds_134 (by decide) ?_
          exact ih32 (q + 1) v131 (upd (upd sa1 (6 * t + 2 * (f 9 q).toInt.toNat) r87) (6 * t + 2 * (f 9 q).toInt.toNat + 1) r127) _ _ _ (by omega) (by omega) (by omega) (fun a b => by
                        rw [(cutM (l := v86.toInt) (h := v126.toInt) (by omega) q87 q127).1 a b, hin a b]
                        have hc : (((f 9 q).toInt.toNat = 0 ∧ v86.toInt ≤ a ∧ a ≤ v126.toInt) ∨ ((f 9 q).toInt.toNat = 1 ∧ v86.toInt ≤ b ∧ b ≤ v126.toInt) ∨ ((f 9 q).toInt.toNat = 2 ∧ v86.toInt ≤ a + b ∧ a + b ≤ v126.toInt)) ↔ chk f q a b := by unfold chk; omega
                        rw [hc]
                        constructor
                        · rintro ⟨⟨h1, h2⟩, h3⟩; exact ⟨h1, h2, fun _ => h3⟩
                        · rintro ⟨h1, h2, h3⟩; exact ⟨⟨h1, h2⟩, h3 (by omega)⟩) ((cutM (l := v86.toInt) (h := v126.toInt) (by omega) q87 q127).2 1500000 hb1 (by omega) (by omega)) (fun j hj => (pk_un (by omega)).trans ((pk_un (by omega)).trans (hfr j hj))) hP hD hS (lv_sub hl [1, 2, 3, 4, 0] rfl)
        · skip
          refine lv_goto (tgt := 131) hx hb dX2_holds_52 (by decide) ?_
          refine c_iinc (k := 4) hx hb (fun v131_2 => [(4, .int v131_2), (0, .ref (ad 0)), (1, .ref as), (2, .int p2), (3, .int v3)]) dX2_holds_131 hl rfl (by decide) (by omega) (by decide) (fun _ => rfl) (fun v131_2 ls i131_2 hl => ?_)
          have hl : lv_has ls 5 [(4, .int v131_2), (0, .ref (ad 0)), (1, .ref as), (2, .int p2), (3, .int v3)] := hl
          refine lv_goto (tgt := 32) hx hb dX2_holds_134 (by decide) ?_
          exact ih32 (q + 1) v131_2 sa1 _ _ _ (by omega) (by omega) (by omega) (fun a b => by
                        rw [hin a b]
                        constructor
                        · rintro ⟨h1, h2⟩; exact ⟨h1, h2, fun h => absurd h (by omega)⟩
                        · rintro ⟨h1, h2, h3⟩; exact ⟨h1, h2⟩) hb1 hfr hP hD hS (lv_sub hl [1, 2, 3, 4, 0] rfl)
  exact HL32 (Cn + 1) 0 v29 (upd (upd sa (6 * t) r11) (6 * t + 2) r25) _ _ _ (by omega) (by omega) (by omega) hin0 B0 hfr0 hP hD hS (lv_sub hl [2, 3, 4, 1, 0] rfl)
