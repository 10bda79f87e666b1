/-! THE LAW's LOOP -/
section LL
variable {l : Launch} {D : va_G} {H0 : Heap} {cI cJ cT cX : ClassId} {w : jb_W} {sz : Nat} {u : jb_U} {b L : Nat} {xs : Nat → Int32} {x y o i k K S : Nat}
theorem jw_head (C : ja_C (jb_mk l room_1 8 "MeasuredTensorsLaw" D H0 (jt_all cI cJ cT cX) u) jc_L_law) (hX : va_X b L xs u.1.2.2 H0) (hbl : b < H0.size) (hL : L ≤ 4096) (hi : i ≤ 4096) (EX : jw_E (jb_mk l room_1 8 "MeasuredTensorsLaw" D H0 (jt_all cI cJ cT cX) u) jc_L_law) (kn : i + 8 ≤ L → ja (jb_mk l room_1 8 "MeasuredTensorsLaw" D H0 (jt_all cI cJ cT cX) u) w sz K S 33 [(4, .int (nI i)), (3, .ref o), (2, .ref y), (1, .ref x), (0, .ref b)] []) : ja (jb_mk l room_1 8 "MeasuredTensorsLaw" D H0 (jt_all cI cJ cT cX) u) w sz K S 23 [(4, .int (nI i)), (3, .ref o), (2, .ref y), (1, .ref x), (0, .ref b)] [] := by
  refine ja_iload C jd_L_law_23 0 rfl ?_
  refine ja_aload_n C jd_L_law_25 4 rfl ?_
  refine ja_slen C hX hbl jd_L_law_26 ?_
  refine ja_bipush C (nI 8) jd_L_law_27 (by decide) ?_
  refine ja_isub C jd_L_law_29 ?_
  have e1 : (nI L - nI 8).toInt = (L : Int) - (8 : Nat) := pk_sub_toInt (by omega) (by decide)
  have e2 : (nI i).toInt = (i : Int) := nI_toInt (by omega)
  refine ja_icmp_gt C 878 jd_L_law_30 (by decide) (fun _ => ?_) (fun c => kn ?_)
  · refine ja_iconst C 1 jd_L_law_878 (by decide) ?_
    exact EX jd_L_law_879
  · have c' : ¬ (nI L - nI 8).toInt < (nI i).toInt := fun z => c (Int32.lt_iff_toInt_lt.mpr z)
    rw [e1, e2] at c'
    omega
theorem jw_loop (C : ja_C (jb_mk l room_1 8 "MeasuredTensorsLaw" D H0 (jt_all cI cJ cT cX) u) jc_L_law) (X : jb_X H0 u.1.2.2) (hst : l.stackTraces = false) (hX : va_X b L xs u.1.2.2 H0) (hbl : b < H0.size) (hL : L ≤ 4096) (EX : jw_E (jb_mk l room_1 8 "MeasuredTensorsLaw" D H0 (jt_all cI cJ cT cX) u) jc_L_law) : ∀ (t k i : Nat) (w : jb_W) (sz : Nat), k + t = 512 → i = 8 * k → jInv cI cJ cT cX x y o k w → ja (jb_mk l room_1 8 "MeasuredTensorsLaw" D H0 (jt_all cI cJ cT cX) u) w sz (21 * t) (9753 * t) 23 [(4, .int (nI i)), (3, .ref o), (2, .ref y), (1, .ref x), (0, .ref b)] [] := by
  intro t
  induction t with
  | zero =>
    intro k i w sz hk hi inv
    refine jw_head C hX hbl hL (by omega) EX (fun hn => absurd hn (by omega))
  | succ t ih =>
    intro k i w sz hk hi inv
    refine jw_head C hX hbl hL (by omega) EX (fun hn => ?_)
    have kk : ∀ w' sz', jInv cI cJ cT cX x y o (k + 1) w' → ja (jb_mk l room_1 8 "MeasuredTensorsLaw" D H0 (jt_all cI cJ cT cX) u) w' sz' (21 * t) (9753 * t) 872 [(4, .int (nI i)), (3, .ref o), (2, .ref y), (1, .ref x), (0, .ref b)] [] := fun w' sz' inv' => by
      refine ja_iincN C [(4, .int (nI (i + 8))), (3, .ref o), (2, .ref y), (1, .ref x), (0, .ref b)] jd_L_law_872 0 rfl (by decide) (Nat.le_of_ble_eq_true rfl) rfl ?_
      refine ja_goto C 23 jd_L_law_875 (by decide) ?_
      exact ih (k + 1) (i + 8) w' sz' (by omega) (by omega) inv'
    refine ja_aload_n C jd_L_law_33 4 rfl ?_
    refine ja_iload C jd_L_law_34 0 rfl ?_
    refine ja_sld C hX hbl (by omega) (by omega) jd_L_law_36 ?_
    refine ja_bipush C (nI 15) jd_L_law_37 (by decide) ?_
    refine ja_iand C jd_L_law_39 ?_
    obtain ⟨j, hj, ej⟩ := pk_andE (xs i) (m := nI 15) 4 (by decide)
    rw [ej]
    match j, hj with
    | 0, _ => exact ja_tableIn C 108 jd_L_law_40 (by decide) (by decide) rfl (by decide) (jwc_begin (K := 21 * t) (S := 9753 * t) C X hst hX hbl hL (by omega) hn inv EX kk)
    | 1, _ => exact ja_tableIn C 133 jd_L_law_40 (by decide) (by decide) rfl (by decide) (jwc_number (K := 21 * t) (S := 9753 * t) C X hst hX hbl hL (by omega) hn inv EX kk)
    | 2, _ => exact ja_tableIn C 173 jd_L_law_40 (by decide) (by decide) rfl (by decide) (jwc_made (K := 21 * t) (S := 9753 * t) C X hst hX hbl hL (by omega) hn inv EX kk)
    | 3, _ => exact ja_tableIn C 279 jd_L_law_40 (by decide) (by decide) rfl (by decide) (jwc_index (K := 21 * t) (S := 9753 * t) C X hst hX hbl hL (by omega) hn inv EX kk)
    | 4, _ => exact ja_tableIn C 369 jd_L_law_40 (by decide) (by decide) rfl (by decide) (jwc_pair (K := 21 * t) (S := 9753 * t) C X hst hX hbl hL (by omega) hn inv EX kk)
    | 5, _ => exact ja_tableIn C 421 jd_L_law_40 (by decide) (by decide) rfl (by decide) (jwc_turned (K := 21 * t) (S := 9753 * t) C X hst hX hbl hL (by omega) hn inv EX kk)
    | 6, _ => exact ja_tableIn C 449 jd_L_law_40 (by decide) (by decide) rfl (by decide) (jwc_over (K := 21 * t) (S := 9753 * t) C X hst hX hbl hL (by omega) hn inv EX kk)
    | 7, _ => exact ja_tableIn C 501 jd_L_law_40 (by decide) (by decide) rfl (by decide) (jwc_call (K := 21 * t) (S := 9753 * t) C X hst hX hbl hL (by omega) hn inv EX kk)
    | 8, _ => exact ja_tableIn C 633 jd_L_law_40 (by decide) (by decide) rfl (by decide) (jwc_reshape (K := 21 * t) (S := 9753 * t) C X hst hX hbl hL (by omega) hn inv EX kk)
    | 9, _ => exact ja_tableIn C 723 jd_L_law_40 (by decide) (by decide) rfl (by decide) (jwc_loss (K := 21 * t) (S := 9753 * t) C X hst hX hbl hL (by omega) hn inv EX kk)
    | 10, _ => exact ja_tableIn C 751 jd_L_law_40 (by decide) (by decide) rfl (by decide) (jwc_told (K := 21 * t) (S := 9753 * t) C X hst hX hbl hL (by omega) hn inv EX kk)
    | 11, _ => exact ja_tableIn C 791 jd_L_law_40 (by decide) (by decide) rfl (by decide) (jwc_divisor (K := 21 * t) (S := 9753 * t) C X hst hX hbl hL (by omega) hn inv EX kk)
    | 12, _ => exact ja_tableIn C 847 jd_L_law_40 (by decide) (by decide) rfl (by decide) (jwc_all (K := 21 * t) (S := 9753 * t) C X hst hX hbl hL (by omega) hn inv EX kk)
    | 13, _ => exact ja_tableOut C 872 jd_L_law_40 (by decide) (by decide) (ja_less (kc' := 21 * t) (ks' := 9753 * t) (by omega) (by omega) (kk _ _ inv.more))
    | 14, _ => exact ja_tableOut C 872 jd_L_law_40 (by decide) (by decide) (ja_less (kc' := 21 * t) (ks' := 9753 * t) (by omega) (by omega) (kk _ _ inv.more))
    | 15, _ => exact ja_tableOut C 872 jd_L_law_40 (by decide) (by decide) (ja_less (kc' := 21 * t) (ks' := 9753 * t) (by omega) (by omega) (kk _ _ inv.more))
    | j + 16, z => exact absurd z (by omega)
end LL
