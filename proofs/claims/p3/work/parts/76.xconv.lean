/-! THE CLASS: convolutions, and with an index -/

theorem jg_X_110 : ja_FL jcl "MeasuredTensors" 110 3 0 := ⟨_, rfl, by decide, jw_I, jw_in (by decide +kernel) (by decide +kernel)⟩
theorem jg_X_111 : ja_FL jcl "MeasuredTensors" 111 3 1 := ⟨_, rfl, by decide, jw_I, jw_in (by decide +kernel) (by decide +kernel)⟩
section X76
variable {l : Launch} {D : va_G} {H0 : Heap} {cI cJ cT cX : ClassId} {w : jb_W} {sz : Nat}
variable {x : Nat} {P : Nat → Prop} {σ : jSt} {dr : Nat} {F G : Nat → Option Nat} {own : Nat → Nat} {fT : Nat → Nat → Int32} {ls : Int32} {k : Nat} {f : Nat → Int32} {m : Int32 × Int32 × Int64} {tm : Int32}
theorem jx_conv0 {ta oa tb ob s : Nat} (h : jXd cI cT cX x P σ dr F G own fT ls w k f m tm) (hta : ta < jSt_c σ) (ea : F ta = some oa) (htb : tb < jSt_c σ) (eb : F tb = some ob) (hs : s < 2 ^ 31) (hf : ¬ ((((jT_k (jSt_T σ ta) = 3 ∧ jT_k (jSt_T σ tb) = 4) ∧ 1 ≤ s ∧ s ≤ 16) ∧ jT_S (jSt_T σ ta) 0 = jT_S (jSt_T σ tb) 1) ∧ jT_S (jSt_T σ tb) 2 ≤ jT_S (jSt_T σ ta) 1 ∧ jT_S (jSt_T σ tb) 3 ≤ jT_S (jSt_T σ ta) 2)) : jb_M l jy_X_draftConvolution jc_X_draftConvolution 9 (some .boolean) 3 70 0 0 D H0 (jt_all cI cJ cT cX) [.ref x, .ref oa, .ref ob, .int (nI s)] w sz
    (fun v w' sz' => v = some (.int (nI 0)) ∧ w' = w ∧ sz' = sz) := by
  refine jb_meth_z (by decide) (Nat.le_of_ble_eq_true rfl) (fun u C X E => ?_)
  have ka := (h.ts hta).1
  have kb := (h.ts htb).1
  have a0 := (h.ts hta).bd 0
  have a1 := (h.ts hta).bd 1
  have a2 := (h.ts hta).bd 2
  have b0 := (h.ts htb).bd 0
  have b1 := (h.ts htb).bd 1
  have b2 := (h.ts htb).bd 2
  have b3 := (h.ts htb).bd 3
  have hxd := h.xd
  have no : ∀ (_ : True), ja (jb_mk l (jb_rm 3 70 0 0) 9 "MeasuredTensors" D H0 (jt_all cI cJ cT cX) u) w sz 0 0 56 [(5, .ref (ob + 1)), (4, .ref (oa + 1)), (0, .ref x), (1, .ref oa), (2, .ref ob), (3, .int (nI s))] [] := by
    intro _
    refine ja_iconst C (nI 0) jd_X_draftConvolution_56 (by decide) ?_
    exact E jd_X_draftConvolution_57 (Or.inl rfl) ⟨rfl, rfl, rfl⟩
  have no2 : ∀ (_ : True), ja (jb_mk l (jb_rm 3 70 0 0) 9 "MeasuredTensors" D H0 (jt_all cI cJ cT cX) u) w sz 0 0 88 [(5, .ref (ob + 1)), (4, .ref (oa + 1)), (0, .ref x), (1, .ref oa), (2, .ref ob), (3, .int (nI s))] [] := by
    intro _
    refine ja_iconst C (nI 0) jd_X_draftConvolution_88 (by decide) ?_
    exact E jd_X_draftConvolution_89 (Or.inl rfl) ⟨rfl, rfl, rfl⟩
  refine ja_aload_n C jd_X_draftConvolution_0 1 rfl ?_
  refine jZx_g C jg_X_93 jd_X_draftConvolution_1 (h.tz hta ea) (fun _ _ => rfl) ?_
  refine ja_astore C [(4, .ref (oa + 1)), (0, .ref x), (1, .ref oa), (2, .ref ob), (3, .int (nI s))] jd_X_draftConvolution_4 (Nat.le_of_ble_eq_true rfl) rfl ?_
  refine ja_aload_n C jd_X_draftConvolution_6 3 rfl ?_
  refine jZx_g C jg_X_93 jd_X_draftConvolution_7 (h.tz htb eb) (fun _ _ => rfl) ?_
  refine ja_astore C [(5, .ref (ob + 1)), (4, .ref (oa + 1)), (0, .ref x), (1, .ref oa), (2, .ref ob), (3, .int (nI s))] jd_X_draftConvolution_10 (Nat.le_of_ble_eq_true rfl) rfl ?_
  refine ja_aload C jd_X_draftConvolution_12 1 rfl ?_
  refine ja_get C jg_X_187 jd_X_draftConvolution_14 (h.tz hta ea).z1 rfl ?_
  refine ja_iconst C (nI 3) jd_X_draftConvolution_17 (by decide) ?_
  refine ja_icmp_neN C 56 jd_X_draftConvolution_18 (by decide) (by omega) (by decide) (fun c1 => no trivial) (fun c1 => ?_)
  refine ja_aload C jd_X_draftConvolution_21 0 rfl ?_
  refine ja_get C jg_X_187 jd_X_draftConvolution_23 (h.tz htb eb).z1 rfl ?_
  refine ja_iconst C (nI 4) jd_X_draftConvolution_26 (by decide) ?_
  refine ja_icmp_neN C 56 jd_X_draftConvolution_27 (by decide) (by omega) (by decide) (fun c2 => no trivial) (fun c2 => ?_)
  refine ja_aload C jd_X_draftConvolution_30 0 rfl ?_
  refine ja_iconst C (nI 1) jd_X_draftConvolution_32 (by decide) ?_
  refine jb_pV 8 C X jk_X_212 (h.tz htb eb).z1 rfl (js_side (h.tz htb eb).z1 (h.tz htb eb).z2 (h.ts htb) (by decide)) jd_X_draftConvolution_33 rfl rfl ⟨by decide, by decide⟩ (Nat.le_of_ble_eq_true rfl) ?_
  refine ja_aload C jd_X_draftConvolution_36 1 rfl ?_
  refine ja_iconst C (nI 0) jd_X_draftConvolution_38 (by decide) ?_
  refine jb_pV 8 C X jk_X_212 (h.tz hta ea).z1 rfl (js_side (h.tz hta ea).z1 (h.tz hta ea).z2 (h.ts hta) (by decide)) jd_X_draftConvolution_39 rfl rfl ⟨by decide, by decide⟩ (Nat.le_of_ble_eq_true rfl) ?_
  refine ja_icmp_neN C 56 jd_X_draftConvolution_42 (by decide) (by omega) (by omega) (fun c3 => no trivial) (fun c3 => ?_)
  refine ja_iload_n C jd_X_draftConvolution_45 5 rfl ?_
  refine ja_iconst C (nI 1) jd_X_draftConvolution_46 (by decide) ?_
  refine ja_icmp_ltN C 56 jd_X_draftConvolution_47 (by decide) (by omega) (by decide) (fun c4 => no trivial) (fun c4 => ?_)
  refine ja_iload_n C jd_X_draftConvolution_50 5 rfl ?_
  refine ja_bipush C (nI 16) jd_X_draftConvolution_51 (by decide) ?_
  refine ja_icmp_leN C 58 jd_X_draftConvolution_53 (by decide) (by omega) (by decide) (fun c5 => ?_) (fun c5 => no trivial)
  refine ja_aload C jd_X_draftConvolution_58 0 rfl ?_
  refine ja_iconst C (nI 2) jd_X_draftConvolution_60 (by decide) ?_
  refine jb_pV 8 C X jk_X_212 (h.tz htb eb).z1 rfl (js_side (h.tz htb eb).z1 (h.tz htb eb).z2 (h.ts htb) (by decide)) jd_X_draftConvolution_61 rfl rfl ⟨by decide, by decide⟩ (Nat.le_of_ble_eq_true rfl) ?_
  refine ja_aload C jd_X_draftConvolution_64 1 rfl ?_
  refine ja_iconst C (nI 1) jd_X_draftConvolution_66 (by decide) ?_
  refine jb_pV 8 C X jk_X_212 (h.tz hta ea).z1 rfl (js_side (h.tz hta ea).z1 (h.tz hta ea).z2 (h.ts hta) (by decide)) jd_X_draftConvolution_67 rfl rfl ⟨by decide, by decide⟩ (Nat.le_of_ble_eq_true rfl) ?_
  refine ja_icmp_gtN C 88 jd_X_draftConvolution_70 (by decide) (by omega) (by omega) (fun c6 => no2 trivial) (fun c6 => ?_)
  refine ja_aload C jd_X_draftConvolution_73 0 rfl ?_
  refine ja_iconst C (nI 3) jd_X_draftConvolution_75 (by decide) ?_
  refine jb_pV 8 C X jk_X_212 (h.tz htb eb).z1 rfl (js_side (h.tz htb eb).z1 (h.tz htb eb).z2 (h.ts htb) (by decide)) jd_X_draftConvolution_76 rfl rfl ⟨by decide, by decide⟩ (Nat.le_of_ble_eq_true rfl) ?_
  refine ja_aload C jd_X_draftConvolution_79 1 rfl ?_
  refine ja_iconst C (nI 2) jd_X_draftConvolution_81 (by decide) ?_
  refine jb_pV 8 C X jk_X_212 (h.tz hta ea).z1 rfl (js_side (h.tz hta ea).z1 (h.tz hta ea).z2 (h.ts hta) (by decide)) jd_X_draftConvolution_82 rfl rfl ⟨by decide, by decide⟩ (Nat.le_of_ble_eq_true rfl) ?_
  refine ja_icmp_leN C 90 jd_X_draftConvolution_85 (by decide) (by omega) (by omega) (fun c7 => ?_) (fun c7 => no2 trivial)
  exact absurd ⟨⟨⟨⟨c1, c2⟩, by omega, by omega⟩, c3.symm⟩, by omega, by omega⟩ hf
theorem jx_conv {ta oa tb ob s : Nat} (h : jXd cI cT cX x P σ dr F G own fT ls w k f m tm) (hta : ta < jSt_c σ) (ea : F ta = some oa) (htb : tb < jSt_c σ) (eb : F tb = some ob) (hf : (((jT_k (jSt_T σ ta) = 3 ∧ jT_k (jSt_T σ tb) = 4) ∧ 1 ≤ s ∧ s ≤ 16) ∧ jT_S (jSt_T σ ta) 0 = jT_S (jSt_T σ tb) 1) ∧ jT_S (jSt_T σ tb) 2 ≤ jT_S (jSt_T σ ta) 1 ∧ jT_S (jSt_T σ tb) 3 ≤ jT_S (jSt_T σ ta) 2) : jb_M l jy_X_draftConvolution jc_X_draftConvolution 9 (some .boolean) 3 70 0 0 D H0 (jt_all cI cJ cT cX) [.ref x, .ref oa, .ref ob, .int (nI s)] w sz
    (fun v w' sz' => v = some (.int (nI 1)) ∧ (jXd cI cT cX x P σ dr F G own fT ls w' 3 (upd (upd (upd (upd f 0 (nI (jT_S (jSt_T σ tb) 0))) 1 (nI ((jT_S (jSt_T σ ta) 1 - jT_S (jSt_T σ tb) 2) / s + 1))) 2 (nI ((jT_S (jSt_T σ ta) 2 - jT_S (jSt_T σ tb) 3) / s + 1))) 3 (nI 1)) (nI (jT_r (jSt_T σ ta)) + nI (jT_r (jSt_T σ tb)) + jx_bits (nI ((jT_S (jSt_T σ ta) 0 * (jT_S (jSt_T σ tb) 2 * jT_S (jSt_T σ tb) 3))) - 1), nI (jT_e (jSt_T σ ta)) + nI (jT_e (jSt_T σ tb)), jx_pr (lN (jT_q (jSt_T σ ta))) (lN (jT_q (jSt_T σ tb)))) (nI (jT_S (jSt_T σ ta) 0 * (jT_S (jSt_T σ tb) 2 * jT_S (jSt_T σ tb) 3))) ∧ jXF P w w') ∧ sz' = sz) := by
  refine jb_meth_z (by decide) (Nat.le_of_ble_eq_true rfl) (fun u C X E => ?_)
  have ka := (h.ts hta).1
  have kb := (h.ts htb).1
  have a0 := (h.ts hta).bd 0
  have a1 := (h.ts hta).bd 1
  have a2 := (h.ts hta).bd 2
  have b0 := (h.ts htb).bd 0
  have b1 := (h.ts htb).bd 1
  have b2 := (h.ts htb).bd 2
  have b3 := (h.ts htb).bd 3
  have hxd := h.xd
  obtain ⟨⟨⟨⟨q1, q2⟩, q3, q4⟩, q5⟩, q6, q7⟩ := hf
  have e1 : (jT_S (jSt_T σ ta) 1 - jT_S (jSt_T σ tb) 2) / s ≤ jT_S (jSt_T σ ta) 1 - jT_S (jSt_T σ tb) 2 := Nat.div_le_self _ _
  have e2 : (jT_S (jSt_T σ ta) 2 - jT_S (jSt_T σ tb) 3) / s ≤ jT_S (jSt_T σ ta) 2 - jT_S (jSt_T σ tb) 3 := Nat.div_le_self _ _
  refine ja_aload_n C jd_X_draftConvolution_0 1 rfl ?_
  refine jZx_g C jg_X_93 jd_X_draftConvolution_1 (h.tz hta ea) (fun _ _ => rfl) ?_
  refine ja_astore C [(4, .ref (oa + 1)), (0, .ref x), (1, .ref oa), (2, .ref ob), (3, .int (nI s))] jd_X_draftConvolution_4 (Nat.le_of_ble_eq_true rfl) rfl ?_
  refine ja_aload_n C jd_X_draftConvolution_6 3 rfl ?_
  refine jZx_g C jg_X_93 jd_X_draftConvolution_7 (h.tz htb eb) (fun _ _ => rfl) ?_
  refine ja_astore C [(5, .ref (ob + 1)), (4, .ref (oa + 1)), (0, .ref x), (1, .ref oa), (2, .ref ob), (3, .int (nI s))] jd_X_draftConvolution_10 (Nat.le_of_ble_eq_true rfl) rfl ?_
  refine ja_aload C jd_X_draftConvolution_12 1 rfl ?_
  refine ja_get C jg_X_187 jd_X_draftConvolution_14 (h.tz hta ea).z1 rfl ?_
  refine ja_iconst C (nI 3) jd_X_draftConvolution_17 (by decide) ?_
  refine ja_icmp_neN C 56 jd_X_draftConvolution_18 (by decide) (by omega) (by decide) (fun c1 => absurd q1 c1) (fun c1 => ?_)
  refine ja_aload C jd_X_draftConvolution_21 0 rfl ?_
  refine ja_get C jg_X_187 jd_X_draftConvolution_23 (h.tz htb eb).z1 rfl ?_
  refine ja_iconst C (nI 4) jd_X_draftConvolution_26 (by decide) ?_
  refine ja_icmp_neN C 56 jd_X_draftConvolution_27 (by decide) (by omega) (by decide) (fun c2 => absurd q2 c2) (fun c2 => ?_)
  refine ja_aload C jd_X_draftConvolution_30 0 rfl ?_
  refine ja_iconst C (nI 1) jd_X_draftConvolution_32 (by decide) ?_
  refine jb_pV 8 C X jk_X_212 (h.tz htb eb).z1 rfl (js_side (h.tz htb eb).z1 (h.tz htb eb).z2 (h.ts htb) (by decide)) jd_X_draftConvolution_33 rfl rfl ⟨by decide, by decide⟩ (Nat.le_of_ble_eq_true rfl) ?_
  refine ja_aload C jd_X_draftConvolution_36 1 rfl ?_
  refine ja_iconst C (nI 0) jd_X_draftConvolution_38 (by decide) ?_
  refine jb_pV 8 C X jk_X_212 (h.tz hta ea).z1 rfl (js_side (h.tz hta ea).z1 (h.tz hta ea).z2 (h.ts hta) (by decide)) jd_X_draftConvolution_39 rfl rfl ⟨by decide, by decide⟩ (Nat.le_of_ble_eq_true rfl) ?_
  refine ja_icmp_neN C 56 jd_X_draftConvolution_42 (by decide) (by omega) (by omega) (fun c3 => absurd q5.symm c3) (fun c3 => ?_)
  refine ja_iload_n C jd_X_draftConvolution_45 5 rfl ?_
  refine ja_iconst C (nI 1) jd_X_draftConvolution_46 (by decide) ?_
  refine ja_icmp_ltN C 56 jd_X_draftConvolution_47 (by decide) (by omega) (by decide) (fun c4 => absurd c4 (by omega)) (fun c4 => ?_)
  refine ja_iload_n C jd_X_draftConvolution_50 5 rfl ?_
  refine ja_bipush C (nI 16) jd_X_draftConvolution_51 (by decide) ?_
  refine ja_icmp_leN C 58 jd_X_draftConvolution_53 (by decide) (by omega) (by decide) (fun c5 => ?_) (fun c5 => absurd c5 (by omega))
  refine ja_aload C jd_X_draftConvolution_58 0 rfl ?_
  refine ja_iconst C (nI 2) jd_X_draftConvolution_60 (by decide) ?_
  refine jb_pV 8 C X jk_X_212 (h.tz htb eb).z1 rfl (js_side (h.tz htb eb).z1 (h.tz htb eb).z2 (h.ts htb) (by decide)) jd_X_draftConvolution_61 rfl rfl ⟨by decide, by decide⟩ (Nat.le_of_ble_eq_true rfl) ?_
  refine ja_aload C jd_X_draftConvolution_64 1 rfl ?_
  refine ja_iconst C (nI 1) jd_X_draftConvolution_66 (by decide) ?_
  refine jb_pV 8 C X jk_X_212 (h.tz hta ea).z1 rfl (js_side (h.tz hta ea).z1 (h.tz hta ea).z2 (h.ts hta) (by decide)) jd_X_draftConvolution_67 rfl rfl ⟨by decide, by decide⟩ (Nat.le_of_ble_eq_true rfl) ?_
  refine ja_icmp_gtN C 88 jd_X_draftConvolution_70 (by decide) (by omega) (by omega) (fun c6 => absurd c6 (by omega)) (fun c6 => ?_)
  refine ja_aload C jd_X_draftConvolution_73 0 rfl ?_
  refine ja_iconst C (nI 3) jd_X_draftConvolution_75 (by decide) ?_
  refine jb_pV 8 C X jk_X_212 (h.tz htb eb).z1 rfl (js_side (h.tz htb eb).z1 (h.tz htb eb).z2 (h.ts htb) (by decide)) jd_X_draftConvolution_76 rfl rfl ⟨by decide, by decide⟩ (Nat.le_of_ble_eq_true rfl) ?_
  refine ja_aload C jd_X_draftConvolution_79 1 rfl ?_
  refine ja_iconst C (nI 2) jd_X_draftConvolution_81 (by decide) ?_
  refine jb_pV 8 C X jk_X_212 (h.tz hta ea).z1 rfl (js_side (h.tz hta ea).z1 (h.tz hta ea).z2 (h.ts hta) (by decide)) jd_X_draftConvolution_82 rfl rfl ⟨by decide, by decide⟩ (Nat.le_of_ble_eq_true rfl) ?_
  refine ja_icmp_leN C 90 jd_X_draftConvolution_85 (by decide) (by omega) (by omega) (fun c7 => ?_) (fun c7 => absurd c7 (by omega))
  refine ja_aload C jd_X_draftConvolution_90 0 rfl ?_
  refine ja_iconst C (nI 2) jd_X_draftConvolution_92 (by decide) ?_
  refine jb_pV 8 C X jk_X_212 (h.tz htb eb).z1 rfl (js_side (h.tz htb eb).z1 (h.tz htb eb).z2 (h.ts htb) (by decide)) jd_X_draftConvolution_93 rfl rfl ⟨by decide, by decide⟩ (Nat.le_of_ble_eq_true rfl) ?_
  refine ja_aload C jd_X_draftConvolution_96 0 rfl ?_
  refine ja_iconst C (nI 3) jd_X_draftConvolution_98 (by decide) ?_
  refine jb_pV 8 C X jk_X_212 (h.tz htb eb).z1 rfl (js_side (h.tz htb eb).z1 (h.tz htb eb).z2 (h.ts htb) (by decide)) jd_X_draftConvolution_99 rfl rfl ⟨by decide, by decide⟩ (Nat.le_of_ble_eq_true rfl) ?_
  refine ja_imulN C jd_X_draftConvolution_102 ?_
  refine ja_istore C [(6, .int (nI ((jT_S (jSt_T σ tb) 2) * (jT_S (jSt_T σ tb) 3)))), (5, .ref (ob + 1)), (4, .ref (oa + 1)), (0, .ref x), (1, .ref oa), (2, .ref ob), (3, .int (nI s))] jd_X_draftConvolution_103 (Nat.le_of_ble_eq_true rfl) rfl ?_
  refine ja_aload C jd_X_draftConvolution_105 2 rfl ?_
  refine ja_iconst C (nI 1) jd_X_draftConvolution_107 (by decide) ?_
  refine jb_pV 8 C X jk_X_212 (h.tz hta ea).z1 rfl (js_side (h.tz hta ea).z1 (h.tz hta ea).z2 (h.ts hta) (by decide)) jd_X_draftConvolution_108 rfl rfl ⟨by decide, by decide⟩ (Nat.le_of_ble_eq_true rfl) ?_
  refine ja_aload C jd_X_draftConvolution_111 1 rfl ?_
  refine ja_iconst C (nI 2) jd_X_draftConvolution_113 (by decide) ?_
  refine jb_pV 8 C X jk_X_212 (h.tz htb eb).z1 rfl (js_side (h.tz htb eb).z1 (h.tz htb eb).z2 (h.ts htb) (by decide)) jd_X_draftConvolution_114 rfl rfl ⟨by decide, by decide⟩ (Nat.le_of_ble_eq_true rfl) ?_
  refine ja_isubN C jd_X_draftConvolution_117 (by omega) ?_
  refine ja_iload_n C jd_X_draftConvolution_118 6 rfl ?_
  refine ja_idivN C jd_X_draftConvolution_119 (by omega) (by omega) (by omega) ?_
  refine ja_iconst C (nI 1) jd_X_draftConvolution_120 (by decide) ?_
  refine ja_iaddN C jd_X_draftConvolution_121 ?_
  refine ja_istore C [(7, .int (nI ((((jT_S (jSt_T σ ta) 1) - (jT_S (jSt_T σ tb) 2)) / s) + 1))), (6, .int (nI ((jT_S (jSt_T σ tb) 2) * (jT_S (jSt_T σ tb) 3)))), (5, .ref (ob + 1)), (4, .ref (oa + 1)), (0, .ref x), (1, .ref oa), (2, .ref ob), (3, .int (nI s))] jd_X_draftConvolution_122 (Nat.le_of_ble_eq_true rfl) rfl ?_
  refine ja_aload C jd_X_draftConvolution_124 3 rfl ?_
  refine ja_iconst C (nI 2) jd_X_draftConvolution_126 (by decide) ?_
  refine jb_pV 8 C X jk_X_212 (h.tz hta ea).z1 rfl (js_side (h.tz hta ea).z1 (h.tz hta ea).z2 (h.ts hta) (by decide)) jd_X_draftConvolution_127 rfl rfl ⟨by decide, by decide⟩ (Nat.le_of_ble_eq_true rfl) ?_
  refine ja_aload C jd_X_draftConvolution_130 2 rfl ?_
  refine ja_iconst C (nI 3) jd_X_draftConvolution_132 (by decide) ?_
  refine jb_pV 8 C X jk_X_212 (h.tz htb eb).z1 rfl (js_side (h.tz htb eb).z1 (h.tz htb eb).z2 (h.ts htb) (by decide)) jd_X_draftConvolution_133 rfl rfl ⟨by decide, by decide⟩ (Nat.le_of_ble_eq_true rfl) ?_
  refine ja_isubN C jd_X_draftConvolution_136 (by omega) ?_
  refine ja_iload_n C jd_X_draftConvolution_137 7 rfl ?_
  refine ja_idivN C jd_X_draftConvolution_138 (by omega) (by omega) (by omega) ?_
  refine ja_iconst C (nI 1) jd_X_draftConvolution_139 (by decide) ?_
  refine ja_iaddN C jd_X_draftConvolution_140 ?_
  refine ja_istore C [(8, .int (nI ((((jT_S (jSt_T σ ta) 2) - (jT_S (jSt_T σ tb) 3)) / s) + 1))), (7, .int (nI ((((jT_S (jSt_T σ ta) 1) - (jT_S (jSt_T σ tb) 2)) / s) + 1))), (6, .int (nI ((jT_S (jSt_T σ tb) 2) * (jT_S (jSt_T σ tb) 3)))), (5, .ref (ob + 1)), (4, .ref (oa + 1)), (0, .ref x), (1, .ref oa), (2, .ref ob), (3, .int (nI s))] jd_X_draftConvolution_141 (Nat.le_of_ble_eq_true rfl) rfl ?_
  refine ja_aload_n C jd_X_draftConvolution_143 5 rfl ?_
  refine ja_get C jg_X_32 jd_X_draftConvolution_144 h.obj rfl ?_
  refine jZx_g C jg_X_93 jd_X_draftConvolution_147 h.d (fun _ _ => rfl) ?_
  refine ja_iconst C (nI 3) jd_X_draftConvolution_150 (by decide) ?_
  refine ja_aload C jd_X_draftConvolution_151 3 rfl ?_
  refine ja_iconst C (nI 0) jd_X_draftConvolution_153 (by decide) ?_
  refine jb_pV 8 C X jk_X_212 (h.tz htb eb).z1 rfl (js_side (h.tz htb eb).z1 (h.tz htb eb).z2 (h.ts htb) (by decide)) jd_X_draftConvolution_154 rfl rfl ⟨by decide, by decide⟩ (Nat.le_of_ble_eq_true rfl) ?_
  refine ja_iload C jd_X_draftConvolution_157 1 rfl ?_
  refine ja_iload C jd_X_draftConvolution_159 0 rfl ?_
  refine ja_iconst C (nI 1) jd_X_draftConvolution_161 (by decide) ?_
  refine jo_vV 8 C X jk_X_97 h.d.z1 rfl (js_set h.d.z1 h.d.z2) jd_X_draftConvolution_162 rfl rfl ⟨by decide, by decide⟩ (Nat.le_of_ble_eq_true rfl) (fun w1 hp1 => ?_)
  obtain ⟨g1a, g1b, f1⟩ := hp1
  obtain ⟨h1, r1⟩ := h.s12 (by decide) g1a g1b f1
  refine ja_aload_n C jd_X_draftConvolution_165 5 rfl ?_
  refine ja_get C jg_X_32 jd_X_draftConvolution_166 h1.obj rfl ?_
  refine ja_aload C jd_X_draftConvolution_169 3 rfl ?_
  refine ja_iconst C (nI 0) jd_X_draftConvolution_171 (by decide) ?_
  refine jb_pV 8 C X jk_X_212 (h1.tz htb eb).z1 rfl (js_side (h1.tz htb eb).z1 (h1.tz htb eb).z2 (h1.ts htb) (by decide)) jd_X_draftConvolution_172 rfl rfl ⟨by decide, by decide⟩ (Nat.le_of_ble_eq_true rfl) ?_
  refine ja_iload C jd_X_draftConvolution_175 2 rfl ?_
  refine ja_imulN C jd_X_draftConvolution_177 ?_
  refine jZx_p C jp_X_250 jnf_T_7 rfl rfl jd_X_draftConvolution_178 h1.d tm (by decide) (fun p q => ⟨jp10 (p 0) (p 1) (p 2) (p 3) (nI ((jT_S (jSt_T σ tb) 0) * ((jT_S (jSt_T σ tb) 2) * (jT_S (jSt_T σ tb) 3)))) (p 5) (p 6) (p 7) (p 8) (p 9), q, rfl⟩) (fun w2 z2 f2 => ?_)
  obtain ⟨h2, r2⟩ := h1.upd h1.k4 z2 f2
  refine ja_aload_n C jd_X_draftConvolution_181 5 rfl ?_
  refine ja_get C jg_X_32 jd_X_draftConvolution_182 h2.obj rfl ?_
  refine ja_iload C jd_X_draftConvolution_185 1 rfl ?_
  refine ja_iload C jd_X_draftConvolution_187 0 rfl ?_
  refine ja_imulN C jd_X_draftConvolution_189 ?_
  refine jZx_p C jp_X_253 jnf_T_8 rfl rfl jd_X_draftConvolution_190 h2.d tm (by decide) (fun p q => ⟨jp10 (p 0) (p 1) (p 2) (p 3) (p 4) (nI (((((jT_S (jSt_T σ ta) 1) - (jT_S (jSt_T σ tb) 2)) / s) + 1) * ((((jT_S (jSt_T σ ta) 2) - (jT_S (jSt_T σ tb) 3)) / s) + 1))) (p 6) (p 7) (p 8) (p 9), q, rfl⟩) (fun w3 z3 f3 => ?_)
  obtain ⟨h3, r3⟩ := h2.upd h2.k4 z3 f3
  refine ja_aload_n C jd_X_draftConvolution_193 5 rfl ?_
  refine ja_aload C jd_X_draftConvolution_194 4 rfl ?_
  refine ja_iconst C (nI 0) jd_X_draftConvolution_196 (by decide) ?_
  refine jb_pV 8 C X jk_X_212 (h3.tz hta ea).z1 rfl (js_side (h3.tz hta ea).z1 (h3.tz hta ea).z2 (h3.ts hta) (by decide)) jd_X_draftConvolution_197 rfl rfl ⟨by decide, by decide⟩ (Nat.le_of_ble_eq_true rfl) ?_
  refine ja_iload C jd_X_draftConvolution_200 2 rfl ?_
  refine ja_imulN C jd_X_draftConvolution_202 ?_
  refine ja_aload_n C jd_X_draftConvolution_203 6 rfl ?_
  refine ja_aload_n C jd_X_draftConvolution_204 7 rfl ?_
  refine jo_vV 8 C X jk_X_276 h3.obj rfl (jx_draftProducts h3 hta ea htb eb) jd_X_draftConvolution_205 rfl rfl ⟨by decide, by decide⟩ (Nat.le_of_ble_eq_true rfl) (fun w4 hp4 => ?_)
  obtain ⟨h4, r4⟩ := hp4
  refine ja_iconst C (nI 1) jd_X_draftConvolution_208 (by decide) ?_
  exact E jd_X_draftConvolution_209 (Or.inr rfl) ⟨rfl, ⟨h4, (r1.tr (r2.tr (r3.tr r4)))⟩, rfl⟩
theorem jx_pick {ta oa i ib : Nat} (h : jXd cI cT cX x P σ dr F G own fT ls w k f m tm) (hta : ta < jSt_c σ) (ea : F ta = some oa) (hi : i < jSt_i σ) (ei : G i = some ib) : jb_M l jy_X_draftWithIndex jc_X_draftWithIndex 5 (some .boolean) 2 44 0 0 D H0 (jt_all cI cJ cT cX) [.ref x, .int (nI 16), .ref oa, .ref ib] w sz
    (fun v w' sz' => ((jT_k (jSt_T σ ta) = 2 ∧ (jSt_I σ i).1 = 1 ∧ (jSt_I σ i).2.2 ≤ jT_S (jSt_T σ ta) 0) → v = some (.int (nI 1)) ∧ jXd cI cT cX x P σ dr F G own fT ls w' k (upd f 0 (nI (jSt_I σ i).2.1)) m tm) ∧ (¬ (jT_k (jSt_T σ ta) = 2 ∧ (jSt_I σ i).1 = 1 ∧ (jSt_I σ i).2.2 ≤ jT_S (jSt_T σ ta) 0) → v = some (.int (nI 0)) ∧ (∃ k' f' m' tm', jXd cI cT cX x P σ dr F G own fT ls w' k' f' m' tm')) ∧ jXF P w w' ∧ sz' = sz) := by
  refine jb_meth_z (by decide) (Nat.le_of_ble_eq_true rfl) (fun u C X E => ?_)
  have a0 := (h.ts hta).bd 0
  have k4 := (h.ts hta).1
  have hxd := h.xd
  obtain ⟨fi, Si, i0, i1, i2, iS, iD, isep, ib1, ib2⟩ := h.iz hi ei
  have s0 := iS.bd 0
  have r4 := iS.1
  refine ja_aload_n C jd_X_draftWithIndex_0 3 rfl ?_
  refine ja_ifnonnull C 6 jd_X_draftWithIndex_1 (by decide) ?_
  refine ja_aload_n C jd_X_draftWithIndex_6 2 rfl ?_
  refine jZx_g C jg_X_93 jd_X_draftWithIndex_7 (h.tz hta ea) (fun _ _ => rfl) ?_
  refine ja_iconst C (nI 0) jd_X_draftWithIndex_10 (by decide) ?_
  refine jb_pV 8 C X jk_X_212 (h.tz hta ea).z1 rfl (js_side (h.tz hta ea).z1 (h.tz hta ea).z2 (h.ts hta) (by decide)) jd_X_draftWithIndex_11 rfl rfl ⟨by decide, by decide⟩ (Nat.le_of_ble_eq_true rfl) ?_
  refine ja_istore C [(4, .int (nI (jT_S (jSt_T σ ta) 0))), (0, .ref x), (1, .int (nI 16)), (2, .ref oa), (3, .ref ib)] jd_X_draftWithIndex_14 (Nat.le_of_ble_eq_true rfl) rfl ?_
  refine ja_iload_n C jd_X_draftWithIndex_16 2 rfl ?_
  refine ja_bipush C (nI 16) jd_X_draftWithIndex_17 (by decide) ?_
  refine ja_icmp_neN C 92 jd_X_draftWithIndex_19 (by decide) (by decide) (by decide) (fun q => absurd q (by decide)) (fun _ => ?_)
  refine ja_aload_n C jd_X_draftWithIndex_22 1 rfl ?_
  refine ja_get C jg_X_32 jd_X_draftWithIndex_23 h.obj rfl ?_
  refine jZx_g C jg_X_93 jd_X_draftWithIndex_26 h.d (fun _ _ => rfl) ?_
  refine ja_aload_n C jd_X_draftWithIndex_29 4 rfl ?_
  refine ja_get C jg_X_110 jd_X_draftWithIndex_30 i0 rfl ?_
  refine ja_iconst C (nI 0) jd_X_draftWithIndex_33 (by decide) ?_
  refine jb_pV 8 C X jk_X_212 i1 rfl (js_side i1 i2 iS (by decide)) jd_X_draftWithIndex_34 rfl rfl ⟨by decide, by decide⟩ (Nat.le_of_ble_eq_true rfl) ?_
  refine jo_vV 8 C X jk_X_315 h.d.z1 rfl (js_setFirst h.d.z1 h.d.z2) jd_X_draftWithIndex_37 rfl rfl ⟨by decide, by decide⟩ (Nat.le_of_ble_eq_true rfl) (fun w1 hp1 => ?_)
  obtain ⟨g1, f1⟩ := hp1
  obtain ⟨h1, r1⟩ := h.s2 g1 f1
  refine ja_aload_n C jd_X_draftWithIndex_40 1 rfl ?_
  refine ja_get C jg_X_32 jd_X_draftWithIndex_41 h1.obj rfl ?_
  refine ja_aload_n C jd_X_draftWithIndex_44 4 rfl ?_
  refine ja_get C jg_X_110 jd_X_draftWithIndex_45 ((f1 _ (by omega)).trans i0) rfl ?_
  refine ja_iconst C (nI 0) jd_X_draftWithIndex_48 (by decide) ?_
  refine jb_pV 8 C X jk_X_212 ((f1 _ (by omega)).trans i1) rfl (js_side ((f1 _ (by omega)).trans i1) ((f1 _ (by omega)).trans i2) iS (by decide)) jd_X_draftWithIndex_49 rfl rfl ⟨by decide, by decide⟩ (Nat.le_of_ble_eq_true rfl) ?_
  refine jZx_p C jp_X_250 jnf_T_7 rfl rfl jd_X_draftWithIndex_52 h1.d tm (by decide) (fun p q => ⟨jp10 (p 0) (p 1) (p 2) (p 3) (nI (Si 0)) (p 5) (p 6) (p 7) (p 8) (p 9), q, rfl⟩) (fun w2 z2 f2 => ?_)
  obtain ⟨h2, r2⟩ := h1.upd h1.k4 z2 f2
  refine ja_aload_n C jd_X_draftWithIndex_55 3 rfl ?_
  refine jZx_g C jg_X_93 jd_X_draftWithIndex_56 (h2.tz hta ea) (fun _ _ => rfl) ?_
  refine ja_get C jg_X_187 jd_X_draftWithIndex_59 (h2.tz hta ea).z1 rfl ?_
  refine ja_iconst C (nI 2) jd_X_draftWithIndex_62 (by decide) ?_
  have no : ∀ (hf : ¬ (jT_k (jSt_T σ ta) = 2 ∧ (jSt_I σ i).1 = 1 ∧ (jSt_I σ i).2.2 ≤ jT_S (jSt_T σ ta) 0)), ja (jb_mk l (jb_rm 2 44 0 0) 5 "MeasuredTensors" D H0 (jt_all cI cJ cT cX) u) w2 sz 0 0 90 [(4, .int (nI (jT_S (jSt_T σ ta) 0))), (0, .ref x), (1, .int (nI 16)), (2, .ref oa), (3, .ref ib)] [] := by
    intro hf
    refine ja_iconst C (nI 0) jd_X_draftWithIndex_90 (by decide) ?_
    exact E jd_X_draftWithIndex_91 (Or.inl rfl) ⟨fun z => absurd z hf, fun _ => ⟨rfl, _, _, _, _, h2⟩, (r1.tr r2), rfl⟩
  refine ja_icmp_neN C 90 jd_X_draftWithIndex_63 (by decide) (by omega) (by decide) (fun c1 => no (fun z => c1 z.1)) (fun c1 => ?_)
  refine ja_aload_n C jd_X_draftWithIndex_66 4 rfl ?_
  refine ja_get C jg_X_110 jd_X_draftWithIndex_67 ((f2 _ (by omega)).trans ((f1 _ (by omega)).trans i0)) rfl ?_
  refine ja_get C jg_X_187 jd_X_draftWithIndex_70 ((f2 _ (by omega)).trans ((f1 _ (by omega)).trans i1)) rfl ?_
  refine ja_iconst C (nI 1) jd_X_draftWithIndex_73 (by decide) ?_
  refine ja_icmp_neN C 90 jd_X_draftWithIndex_74 (by decide) (by omega) (by decide) (fun c2 => no (fun z => c2 z.2.1)) (fun c2 => ?_)
  refine ja_aload_n C jd_X_draftWithIndex_77 4 rfl ?_
  refine ja_get C jg_X_111 jd_X_draftWithIndex_78 ((f2 _ (by omega)).trans ((f1 _ (by omega)).trans i0)) rfl ?_
  refine ja_iload C jd_X_draftWithIndex_81 0 rfl ?_
  refine ja_icmp_gtN C 90 jd_X_draftWithIndex_83 (by decide) (by omega) (by omega) (fun c3 => no (fun z => by omega)) (fun c3 => ?_)
  refine ja_iconst C (nI 1) jd_X_draftWithIndex_86 (by decide) ?_
  refine ja_goto C 91 jd_X_draftWithIndex_87 (by decide) ?_
  exact E jd_X_draftWithIndex_91 (Or.inr rfl) ⟨fun _ => ⟨rfl, by rw [← iD c2]; exact h2⟩, fun z => absurd ⟨c1, c2, c3⟩ z, (r1.tr r2), rfl⟩
theorem jx_hinge {ta oa i ib : Nat} (h : jXd cI cT cX x P σ dr F G own fT ls w k f m tm) (hta : ta < jSt_c σ) (ea : F ta = some oa) (hi : i < jSt_i σ) (ei : G i = some ib) : jb_M l jy_X_draftWithIndex jc_X_draftWithIndex 5 (some .boolean) 2 44 0 0 D H0 (jt_all cI cJ cT cX) [.ref x, .int (nI 17), .ref oa, .ref ib] w sz
    (fun v w' sz' => ((jT_k (jSt_T σ ta) = 1 ∧ (jSt_I σ i).1 = 0 ∧ (jSt_I σ i).2.2 ≤ jT_S (jSt_T σ ta) 0) → v = some (.int (nI 1)) ∧ jXd cI cT cX x P σ dr F G own fT ls w' 0 f (m.1 + (nI 3 + jx_bits (nI (jT_S (jSt_T σ ta) 0) - 1)), m.2.1, m.2.2) (nI (jT_S (jSt_T σ ta) 0))) ∧ (¬ (jT_k (jSt_T σ ta) = 1 ∧ (jSt_I σ i).1 = 0 ∧ (jSt_I σ i).2.2 ≤ jT_S (jSt_T σ ta) 0) → v = some (.int (nI 0)) ∧ (∃ k' f' m' tm', jXd cI cT cX x P σ dr F G own fT ls w' k' f' m' tm')) ∧ jXF P w w' ∧ sz' = sz) := by
  refine jb_meth_z (by decide) (Nat.le_of_ble_eq_true rfl) (fun u C X E => ?_)
  have a0 := (h.ts hta).bd 0
  have k4 := (h.ts hta).1
  have hxd := h.xd
  obtain ⟨fi, Si, i0, i1, i2, iS, iD, isep, ib1, ib2⟩ := h.iz hi ei
  have s0 := iS.bd 0
  have r4 := iS.1
  refine ja_aload_n C jd_X_draftWithIndex_0 3 rfl ?_
  refine ja_ifnonnull C 6 jd_X_draftWithIndex_1 (by decide) ?_
  refine ja_aload_n C jd_X_draftWithIndex_6 2 rfl ?_
  refine jZx_g C jg_X_93 jd_X_draftWithIndex_7 (h.tz hta ea) (fun _ _ => rfl) ?_
  refine ja_iconst C (nI 0) jd_X_draftWithIndex_10 (by decide) ?_
  refine jb_pV 8 C X jk_X_212 (h.tz hta ea).z1 rfl (js_side (h.tz hta ea).z1 (h.tz hta ea).z2 (h.ts hta) (by decide)) jd_X_draftWithIndex_11 rfl rfl ⟨by decide, by decide⟩ (Nat.le_of_ble_eq_true rfl) ?_
  refine ja_istore C [(4, .int (nI (jT_S (jSt_T σ ta) 0))), (0, .ref x), (1, .int (nI 17)), (2, .ref oa), (3, .ref ib)] jd_X_draftWithIndex_14 (Nat.le_of_ble_eq_true rfl) rfl ?_
  refine ja_iload_n C jd_X_draftWithIndex_16 2 rfl ?_
  refine ja_bipush C (nI 16) jd_X_draftWithIndex_17 (by decide) ?_
  refine ja_icmp_neN C 92 jd_X_draftWithIndex_19 (by decide) (by decide) (by decide) (fun _ => ?_) (fun q => absurd q (by decide))
  refine ja_aload_n C jd_X_draftWithIndex_92 1 rfl ?_
  refine ja_get C jg_X_32 jd_X_draftWithIndex_93 h.obj rfl ?_
  refine jZx_g C jg_X_93 jd_X_draftWithIndex_96 h.d (fun _ _ => rfl) ?_
  refine jo_vV 8 C X jk_X_309 h.d.z1 rfl (js_clear h.d.z1 h.d.z2) jd_X_draftWithIndex_99 rfl rfl ⟨by decide, by decide⟩ (Nat.le_of_ble_eq_true rfl) (fun w1 hp1 => ?_)
  obtain ⟨g1, f1⟩ := hp1
  obtain ⟨h1, r1⟩ := h.s1 (by decide) g1 f1
  refine ja_aload_n C jd_X_draftWithIndex_102 1 rfl ?_
  refine ja_get C jg_X_32 jd_X_draftWithIndex_103 h1.obj rfl ?_
  refine ja_iload C jd_X_draftWithIndex_106 0 rfl ?_
  refine jZx_p C jp_X_215 jnf_T_4 rfl rfl jd_X_draftWithIndex_108 h1.d (nI (jT_S (jSt_T σ ta) 0)) (by decide) (fun p q => ⟨jp10 (p 0) (nI (jT_S (jSt_T σ ta) 0)) (p 2) (p 3) (p 4) (p 5) (p 6) (p 7) (p 8) (p 9), rfl, rfl⟩) (fun w2 z2 f2 => ?_)
  obtain ⟨h2, r2⟩ := h1.upd h1.k4 z2 f2
  refine ja_aload_n C jd_X_draftWithIndex_111 1 rfl ?_
  refine ja_get C jg_X_32 jd_X_draftWithIndex_112 h2.obj rfl ?_
  refine ja_iload C jd_X_draftWithIndex_115 0 rfl ?_
  refine jZx_p C jp_X_250 jnf_T_7 rfl rfl jd_X_draftWithIndex_117 h2.d (nI (jT_S (jSt_T σ ta) 0)) (by decide) (fun p q => ⟨jp10 (p 0) (p 1) (p 2) (p 3) (nI (jT_S (jSt_T σ ta) 0)) (p 5) (p 6) (p 7) (p 8) (p 9), q, rfl⟩) (fun w3 z3 f3 => ?_)
  obtain ⟨h3, r3⟩ := h2.upd h2.k4 z3 f3
  refine ja_aload_n C jd_X_draftWithIndex_120 1 rfl ?_
  refine ja_get C jg_X_32 jd_X_draftWithIndex_121 h3.obj rfl ?_
  refine jZx_g C jg_X_73 jd_X_draftWithIndex_124 h3.d (fun _ _ => rfl) ?_
  refine ja_iconst C (nI 3) jd_X_draftWithIndex_127 (by decide) ?_
  refine ja_iload C jd_X_draftWithIndex_128 0 rfl ?_
  refine jb_pS 8 C X jk_X_283 (jx_doublingsTo) jd_X_draftWithIndex_130 rfl rfl ⟨by decide, by decide⟩ (Nat.le_of_ble_eq_true rfl) ?_
  refine ja_iadd C jd_X_draftWithIndex_133 ?_
  refine jo_vV 8 C X jk_X_265 h3.d.z3 rfl (jm_widen h3.d.z3) jd_X_draftWithIndex_134 rfl rfl ⟨by decide, by decide⟩ (Nat.le_of_ble_eq_true rfl) (fun w4 hp4 => ?_)
  obtain ⟨g4, f4⟩ := hp4
  obtain ⟨h4, r4⟩ := h3.m3 g4 f4
  refine ja_aload_n C jd_X_draftWithIndex_137 3 rfl ?_
  refine jZx_g C jg_X_93 jd_X_draftWithIndex_138 (h4.tz hta ea) (fun _ _ => rfl) ?_
  refine ja_get C jg_X_187 jd_X_draftWithIndex_141 (h4.tz hta ea).z1 rfl ?_
  refine ja_iconst C (nI 1) jd_X_draftWithIndex_144 (by decide) ?_
  have no : ∀ (hf : ¬ (jT_k (jSt_T σ ta) = 1 ∧ (jSt_I σ i).1 = 0 ∧ (jSt_I σ i).2.2 ≤ jT_S (jSt_T σ ta) 0)), ja (jb_mk l (jb_rm 2 44 0 0) 5 "MeasuredTensors" D H0 (jt_all cI cJ cT cX) u) w4 sz 0 0 171 [(4, .int (nI (jT_S (jSt_T σ ta) 0))), (0, .ref x), (1, .int (nI 17)), (2, .ref oa), (3, .ref ib)] [] := by
    intro hf
    refine ja_iconst C (nI 0) jd_X_draftWithIndex_171 (by decide) ?_
    exact E jd_X_draftWithIndex_172 (Or.inl rfl) ⟨fun z => absurd z hf, fun _ => ⟨rfl, _, _, _, _, h4⟩, (r1.tr (r2.tr (r3.tr r4))), rfl⟩
  refine ja_icmp_neN C 171 jd_X_draftWithIndex_145 (by decide) (by omega) (by decide) (fun c1 => no (fun z => c1 z.1)) (fun c1 => ?_)
  refine ja_aload_n C jd_X_draftWithIndex_148 4 rfl ?_
  refine ja_get C jg_X_110 jd_X_draftWithIndex_149 ((f4 _ (by omega)).trans ((f3 _ (by omega)).trans ((f2 _ (by omega)).trans ((f1 _ (by omega)).trans i0)))) rfl ?_
  refine ja_get C jg_X_187 jd_X_draftWithIndex_152 ((f4 _ (by omega)).trans ((f3 _ (by omega)).trans ((f2 _ (by omega)).trans ((f1 _ (by omega)).trans i1)))) rfl ?_
  refine ja_if_neN C 171 jd_X_draftWithIndex_155 (by decide) (by omega) (fun c2 => no (fun z => by omega)) (fun c2 => ?_)
  refine ja_aload_n C jd_X_draftWithIndex_158 4 rfl ?_
  refine ja_get C jg_X_111 jd_X_draftWithIndex_159 ((f4 _ (by omega)).trans ((f3 _ (by omega)).trans ((f2 _ (by omega)).trans ((f1 _ (by omega)).trans i0)))) rfl ?_
  refine ja_iload C jd_X_draftWithIndex_162 0 rfl ?_
  refine ja_icmp_gtN C 171 jd_X_draftWithIndex_164 (by decide) (by omega) (by omega) (fun c3 => no (fun z => by omega)) (fun c3 => ?_)
  refine ja_iconst C (nI 1) jd_X_draftWithIndex_167 (by decide) ?_
  refine ja_goto C 172 jd_X_draftWithIndex_168 (by decide) ?_
  exact E jd_X_draftWithIndex_172 (Or.inr rfl) ⟨fun _ => ⟨rfl, h4⟩, fun z => absurd ⟨c1, c2, c3⟩ z, (r1.tr (r2.tr (r3.tr r4))), rfl⟩
theorem jx_withNull {wt oa : Nat} (h : jXd cI cT cX x P σ dr F G own fT ls w k f m tm) : jb_M l jy_X_draftWithIndex jc_X_draftWithIndex 5 (some .boolean) 1 22 0 0 D H0 (jt_all cI cJ cT cX) [.ref x, .int (nI wt), .ref oa, .null] w sz
    (fun v w' sz' => v = some (.int (nI 0)) ∧ w' = w ∧ sz' = sz) := by
  refine jb_meth_z (by decide) (Nat.le_of_ble_eq_true rfl) (fun u C X E => ?_)
  refine ja_aload_nN C jd_X_draftWithIndex_0 3 rfl ?_
  refine ja_ifnonnullN C jd_X_draftWithIndex_1 ?_
  refine ja_iconst C (nI 0) jd_X_draftWithIndex_4 (by decide) ?_
  exact E jd_X_draftWithIndex_5 (Or.inl rfl) ⟨rfl, rfl, rfl⟩
theorem jx_twoNull {wt oa : Nat} {z0 : Int32} (h : jXd cI cT cX x P σ dr F G own fT ls w k f m tm) : jb_M l jy_X_draftOfTwo jc_X_draftOfTwo 5 (some .boolean) 1 22 0 0 D H0 (jt_all cI cJ cT cX) [.ref x, .int (nI wt), .ref oa, .null, .int z0] w sz
    (fun v w' sz' => v = some (.int (nI 0)) ∧ w' = w ∧ sz' = sz) := by
  refine jb_meth_z (by decide) (Nat.le_of_ble_eq_true rfl) (fun u C X E => ?_)
  refine ja_aload_nN C jd_X_draftOfTwo_0 3 rfl ?_
  refine ja_ifnonnullN C jd_X_draftOfTwo_1 ?_
  refine ja_iconst C (nI 0) jd_X_draftOfTwo_4 (by decide) ?_
  exact E jd_X_draftOfTwo_5 (Or.inl rfl) ⟨rfl, rfl, rfl⟩
end X76
