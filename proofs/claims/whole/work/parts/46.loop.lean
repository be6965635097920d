set_option maxHeartbeats 4000000 in
set_option maxRecDepth 100000 in
theorem law_loop {p : Program} {l : Launch} {e : Env} {s : State} {m : MethodId} {below : List Frame} {meth : Method} {c : Code} {b L : Nat} {xs : Nat → Int32} {D : va_G} {cI cJ : ClassId} {sa : Nat → Nat} {ad am : Nat → Nat} {ao : Nat} (cx : Lcx p l s m meth c b L xs D cI cJ sa) (hL : L ≤ 2560) :
    ∀ (n j : Nat) (f : Nat → Nat → Int32) (lo hi : Nat → Int32) (T Dv C : Int32) (og : Nat → Int64) (ah bk bo mv : Nat → Int32) (th mo : Int32) (Tn Dn Cn : Nat) (H : Heap) (locs : List Loc) (ls : Array Slot) (x4 : Int32), 5 * j ≤ L → L + 1 ≤ 5 * j + 5 * n → Lst s D cI cJ ad am ao f lo hi T Dv C og ah bk bo mv th mo Tn Dn Cn H locs → x4.toInt = 5 * (j : Int) → lv_has ls 7 (Llv b ad am ao x4) →
      W p l e room_1 s m #[Value.ref b] below meth c H locs (34 + j) (3172 + 6 * j) (lw_Z below #[Value.ref b] s) (F0 m 23 ls []) := by
  obtain ⟨⟨hx, hb, hr, hml, hown, hts0, hX, hbl, hlocks, hgv⟩, hnst, hts, hK, hth, hnc⟩ := id cx
  have hbA : ¬ aH s b := Nat.not_le.mpr hbl
  intro n
  induction n with
  | zero =>
    intro j f lo hi T Dv C og ah bk bo mv th mo Tn Dn Cn H locs ls x4 h1 h2
    exact absurd h2 (by omega)
  | succ n ih =>
    intro j f lo hi T Dv C og ah bk bo mv th mo Tn Dn Cn H locs ls x4 h1 h2 hst hx4 hl
    have hS := hst.2.2.2.2.2.2
    have hLn : (Int32.ofNat L).toInt = (L : Int) := t_nI (by omega)
    refine lv_iload hx hb dL_law_23 (lv_at hl 4 rfl) ?_
    refine lv_aload_n hx hb dL_law_25 rfl (lv_at hl 0 rfl) ?_
    refine va_slen hx hb hX hbl hbA hS dL_law_26 ?_
    refine c_iconst hx hb dL_law_27 (by decide) (fun v27 i27 => ?_)
    refine c_isub hx hb dL_law_28 (by omega) (fun v28 i28 => ?_)
    refine c_icmp_gt (tgt := 815) hx hb dL_law_29 (by decide) (fun c29 => ?_) (fun c29 => ?_)
    · refine lv_iconst (v := 1) hx hb dL_law_815 (by decide) ?_
      refine va_forget (fun q hq => hS.2.2 q hq) ?_
      refine W.widen (k := 1064) (n := 11400) (by omega) (by omega) ?_
      exact lw_ret hx hb hr hlocks dL_law_816
    · have hj5 : 5 * j + 5 ≤ L := by omega
      have K : K809 p l e s m below meth c b D cI cJ ad am ao j := by
        intro f lo hi T Dv C og ah bk bo mv th mo Tn Dn Cn H locs ls x4 hst hx4 hl
        refine c_iinc (k := 4) hx hb (fun v => [(4, .int v), (0, .ref b), (1, .ref (ad 0)), (2, .ref (am 0)), (3, .ref ao)]) dL_law_809 hl rfl (by decide) (by omega) (by decide) (fun _ => rfl) (fun v9 ls i9 hl => ?_)
        refine lv_goto (tgt := 23) hx hb dL_law_812 (by decide) ?_
        exact ih (j + 1) f lo hi T Dv C og ah bk bo mv th mo Tn Dn Cn H locs ls v9 (by omega) (by omega) hst (by omega) (lv_sub hl [1, 2, 3, 4, 0] rfl)
      refine lv_aload_n hx hb dL_law_32 rfl (lv_at hl 0 rfl) ?_
      refine lv_iload hx hb dL_law_33 (lv_at hl 4 rfl) ?_
      refine c_sld hx hb hX hbl hbA hS (5 * j) (by omega) (by omega) dL_law_35 ?_
      refine c_bipush hx hb dL_law_36 (by decide) (fun v36 i36 => ?_)
      refine lv_iand hx hb dL_law_38 ?_
      have h15 := and15 (xs (5 * j)) i36
      refine lv_topi (fun v38 e38 => ?_)
      rw [← e38] at h15
      rcases (show v38.toInt = 0 ∨ v38.toInt = 1 ∨ v38.toInt = 2 ∨ v38.toInt = 3 ∨ v38.toInt = 4 ∨ v38.toInt = 5 ∨ v38.toInt = 6 ∨ v38.toInt = 7 ∨ v38.toInt = 8 ∨ v38.toInt = 9 ∨ v38.toInt = 10 ∨ v38.toInt = 11 ∨ v38.toInt = 12 ∨ v38.toInt = 13 ∨ v38.toInt = 14 ∨ v38.toInt = 15 by omega) with w39 | w39 | w39 | w39 | w39 | w39 | w39 | w39 | w39 | w39 | w39 | w39 | w39 | w39 | w39 | w39
      · refine lv_tableIn (off := 77) (tgt := 116) hx hb dL_law_39 (by omega) (by omega) (by rw [w39]; rfl) (by decide) ?_
        exact law_0 cx hL hj5 K f lo hi T Dv C og ah bk bo mv th mo Tn Dn Cn H locs ls x4 hst hx4 hl
      · refine lv_tableIn (off := 102) (tgt := 141) hx hb dL_law_39 (by omega) (by omega) (by rw [w39]; rfl) (by decide) ?_
        exact law_1 cx hL hj5 K f lo hi T Dv C og ah bk bo mv th mo Tn Dn Cn H locs ls x4 hst hx4 hl
      · refine lv_tableIn (off := 163) (tgt := 202) hx hb dL_law_39 (by omega) (by omega) (by rw [w39]; rfl) (by decide) ?_
        exact law_2 cx hL hj5 K f lo hi T Dv C og ah bk bo mv th mo Tn Dn Cn H locs ls x4 hst hx4 hl
      · refine lv_tableIn (off := 224) (tgt := 263) hx hb dL_law_39 (by omega) (by omega) (by rw [w39]; rfl) (by decide) ?_
        exact law_3 cx hL hj5 K f lo hi T Dv C og ah bk bo mv th mo Tn Dn Cn H locs ls x4 hst hx4 hl
      · refine lv_tableIn (off := 273) (tgt := 312) hx hb dL_law_39 (by omega) (by omega) (by rw [w39]; rfl) (by decide) ?_
        exact law_4 cx hL hj5 K f lo hi T Dv C og ah bk bo mv th mo Tn Dn Cn H locs ls x4 hst hx4 hl
      · refine lv_tableIn (off := 322) (tgt := 361) hx hb dL_law_39 (by omega) (by omega) (by rw [w39]; rfl) (by decide) ?_
        exact law_5 cx hL hj5 K f lo hi T Dv C og ah bk bo mv th mo Tn Dn Cn H locs ls x4 hst hx4 hl
      · refine lv_tableIn (off := 383) (tgt := 422) hx hb dL_law_39 (by omega) (by omega) (by rw [w39]; rfl) (by decide) ?_
        exact law_6 cx hL hj5 K f lo hi T Dv C og ah bk bo mv th mo Tn Dn Cn H locs ls x4 hst hx4 hl
      · refine lv_tableIn (off := 396) (tgt := 435) hx hb dL_law_39 (by omega) (by omega) (by rw [w39]; rfl) (by decide) ?_
        exact law_7 cx hL hj5 K f lo hi T Dv C og ah bk bo mv th mo Tn Dn Cn H locs ls x4 hst hx4 hl
      · refine lv_tableIn (off := 409) (tgt := 448) hx hb dL_law_39 (by omega) (by omega) (by rw [w39]; rfl) (by decide) ?_
        exact law_8 cx hL hj5 K f lo hi T Dv C og ah bk bo mv th mo Tn Dn Cn H locs ls x4 hst hx4 hl
      · refine lv_tableIn (off := 505) (tgt := 544) hx hb dL_law_39 (by omega) (by omega) (by rw [w39]; rfl) (by decide) ?_
        exact law_9 cx hL hj5 K f lo hi T Dv C og ah bk bo mv th mo Tn Dn Cn H locs ls x4 hst hx4 hl
      · refine lv_tableIn (off := 530) (tgt := 569) hx hb dL_law_39 (by omega) (by omega) (by rw [w39]; rfl) (by decide) ?_
        exact law_10 cx hL hj5 K f lo hi T Dv C og ah bk bo mv th mo Tn Dn Cn H locs ls x4 hst hx4 hl
      · refine lv_tableIn (off := 555) (tgt := 594) hx hb dL_law_39 (by omega) (by omega) (by rw [w39]; rfl) (by decide) ?_
        exact law_11 cx hL hj5 K f lo hi T Dv C og ah bk bo mv th mo Tn Dn Cn H locs ls x4 hst hx4 hl
      · refine lv_tableIn (off := 651) (tgt := 690) hx hb dL_law_39 (by omega) (by omega) (by rw [w39]; rfl) (by decide) ?_
        exact law_12 cx hL hj5 K f lo hi T Dv C og ah bk bo mv th mo Tn Dn Cn H locs ls x4 hst hx4 hl
      · refine lv_tableIn (off := 664) (tgt := 703) hx hb dL_law_39 (by omega) (by omega) (by rw [w39]; rfl) (by decide) ?_
        exact law_13 cx hL hj5 K f lo hi T Dv C og ah bk bo mv th mo Tn Dn Cn H locs ls x4 hst hx4 hl
      · refine lv_tableIn (off := 677) (tgt := 716) hx hb dL_law_39 (by omega) (by omega) (by rw [w39]; rfl) (by decide) ?_
        exact law_14 cx hL hj5 K f lo hi T Dv C og ah bk bo mv th mo Tn Dn Cn H locs ls x4 hst hx4 hl
      · refine lv_tableIn (off := 745) (tgt := 784) hx hb dL_law_39 (by omega) (by omega) (by rw [w39]; rfl) (by decide) ?_
        exact law_15 cx hL hj5 K f lo hi T Dv C og ah bk bo mv th mo Tn Dn Cn H locs ls x4 hst hx4 hl
